def GA : List Cond := lw_tbl.filter goodWord
theorem ga_of {w : Cond} (h : w ∈ lw_tbl) (g : goodWord w = true) : w ∈ GA := List.mem_filter.mpr ⟨h, g⟩
theorem ga_t {w : Cond} (i : Nat) (h : tables_1[i]? = some w) (g : goodWord w = true) : w ∈ GA := ga_of (List.mem_append_right _ (List.mem_of_getElem? h)) g
theorem ga_s {w : Cond} (i : Nat) (h : (k2_sels lw_privs)[i]? = some w) (g : goodWord w = true) : w ∈ GA := ga_of (List.mem_append_left _ (List.mem_of_getElem? h)) g
theorem ga_ws {ws : List Cond} (ps : List Nat) (h : ws = ps.filterMap (fun i => tables_1[i]?)) (g : ws.all goodWord = true) : ∀ w ∈ ws, w ∈ GA := by
  intro w hw
  have h1 := List.all_eq_true.mp g w hw
  rw [h] at hw
  obtain ⟨i, -, hi⟩ := List.mem_filterMap.mp hw
  exact ga_t i hi h1
set_option maxRecDepth 20000 in
theorem qw_0 : Cond.initialized RL ∈ GA := ga_t 0 (by decide +kernel) (by decide +kernel)
set_option maxRecDepth 20000 in
theorem qw_1 : Cond.initialized RX11 ∈ GA := ga_t 1 (by decide +kernel) (by decide +kernel)
set_option maxRecDepth 20000 in
theorem qw_2 : Cond.initialized RJxa1e45 ∈ GA := ga_t 2 (by decide +kernel) (by decide +kernel)
set_option maxRecDepth 20000 in
theorem qw_3 : Cond.initialized RJxc12de ∈ GA := ga_t 3 (by decide +kernel) (by decide +kernel)
set_option maxRecDepth 20000 in
theorem qw_4 : Cond.initialized RJx4a65c ∈ GA := ga_t 4 (by decide +kernel) (by decide +kernel)
set_option maxRecDepth 20000 in
theorem qw_5 : Cond.initialized RX2 ∈ GA := ga_t 5 (by decide +kernel) (by decide +kernel)
set_option maxRecDepth 20000 in
theorem qw_6 : Cond.initialized RX8 ∈ GA := ga_t 6 (by decide +kernel) (by decide +kernel)
set_option maxRecDepth 20000 in
theorem qw_7 : Cond.initialized "java/lang/Throwable" ∈ GA := ga_t 7 (by decide +kernel) (by decide +kernel)
set_option maxRecDepth 20000 in
theorem qw_8 : Cond.initialized "java/lang/Exception" ∈ GA := ga_t 8 (by decide +kernel) (by decide +kernel)
set_option maxRecDepth 20000 in
theorem qw_9 : Cond.initialized "java/lang/RuntimeException" ∈ GA := ga_t 9 (by decide +kernel) (by decide +kernel)
set_option maxRecDepth 20000 in
theorem qw_10 : Cond.initialized "java/lang/IllegalArgumentException" ∈ GA := ga_t 10 (by decide +kernel) (by decide +kernel)
set_option maxRecDepth 20000 in
theorem qw_11 : Cond.initialized "java/lang/IllegalStateException" ∈ GA := ga_t 11 (by decide +kernel) (by decide +kernel)
set_option maxRecDepth 20000 in
theorem qw_12 : Cond.initialized RX4 ∈ GA := ga_t 12 (by decide +kernel) (by decide +kernel)
set_option maxRecDepth 20000 in
theorem qw_13 : Cond.initialized RX3 ∈ GA := ga_t 13 (by decide +kernel) (by decide +kernel)
set_option maxRecDepth 20000 in
theorem qw_14 : Cond.initialized RJ8 ∈ GA := ga_t 14 (by decide +kernel) (by decide +kernel)
set_option maxRecDepth 20000 in
theorem qw_15 : Cond.initialized RJ9 ∈ GA := ga_t 15 (by decide +kernel) (by decide +kernel)
set_option maxRecDepth 20000 in
theorem qw_16 : Cond.initialized RJ7 ∈ GA := ga_t 16 (by decide +kernel) (by decide +kernel)
set_option maxRecDepth 20000 in
theorem qw_17 : Cond.initialized RJ10 ∈ GA := ga_t 17 (by decide +kernel) (by decide +kernel)
set_option maxRecDepth 20000 in
theorem qw_18 : Cond.initialized "java/lang/IndexOutOfBoundsException" ∈ GA := ga_t 18 (by decide +kernel) (by decide +kernel)
set_option maxRecDepth 20000 in
theorem qw_19 : Cond.initialized RX7 ∈ GA := ga_t 19 (by decide +kernel) (by decide +kernel)
set_option maxRecDepth 20000 in
theorem qw_20 : Cond.initialized RJ15 ∈ GA := ga_t 20 (by decide +kernel) (by decide +kernel)
set_option maxRecDepth 20000 in
theorem qw_21 : Cond.initialized RJ3 ∈ GA := ga_t 21 (by decide +kernel) (by decide +kernel)
set_option maxRecDepth 20000 in
theorem qw_22 : Cond.initialized RX1 ∈ GA := ga_t 22 (by decide +kernel) (by decide +kernel)
set_option maxRecDepth 20000 in
theorem qw_23 : Cond.initialized RX9 ∈ GA := ga_t 23 (by decide +kernel) (by decide +kernel)
set_option maxRecDepth 20000 in
theorem qw_24 : Cond.initialized RX0 ∈ GA := ga_t 24 (by decide +kernel) (by decide +kernel)
set_option maxRecDepth 20000 in
theorem qw_25 : Cond.initialized RX6 ∈ GA := ga_t 25 (by decide +kernel) (by decide +kernel)
set_option maxRecDepth 20000 in
theorem qw_26 : Cond.initialized RX10 ∈ GA := ga_t 26 (by decide +kernel) (by decide +kernel)
set_option maxRecDepth 20000 in
theorem qw_27 : Cond.classLink RL 9 RX11 ∈ GA := ga_t 27 (by decide +kernel) (by decide +kernel)
set_option maxRecDepth 20000 in
theorem qw_28 : Cond.instantiable RX11 14 ∈ GA := ga_t 28 (by decide +kernel) (by decide +kernel)
set_option maxRecDepth 20000 in
theorem qw_29 : Cond.methodLink RL 11 yX11_init ∈ GA := ga_t 29 (by decide +kernel) (by decide +kernel)
set_option maxRecDepth 20000 in
theorem qw_30 : Cond.instanceMethod yX11_init ∈ GA := ga_t 30 (by decide +kernel) (by decide +kernel)
set_option maxRecDepth 20000 in
theorem qw_31 : Cond.code yX11_init cX11_init 1 none ∈ GA := ga_t 31 (by decide +kernel) (by decide +kernel)
set_option maxRecDepth 20000 in
theorem qw_32 : Cond.methodLink RX11 1 objectInit ∈ GA := ga_t 32 (by decide +kernel) (by decide +kernel)
set_option maxRecDepth 20000 in
theorem qw_33 : Cond.instanceMethod objectInit ∈ GA := ga_t 33 (by decide +kernel) (by decide +kernel)
set_option maxRecDepth 20000 in
theorem qw_34 : Cond.code objectInit object_method_1_code 1 none ∈ GA := ga_t 34 (by decide +kernel) (by decide +kernel)
set_option maxRecDepth 20000 in
theorem qw_35 : Cond.classLink RX11 7 RJx4a65c ∈ GA := ga_t 35 (by decide +kernel) (by decide +kernel)
set_option maxRecDepth 20000 in
theorem qw_36 : Cond.instantiable RJx4a65c 3 ∈ GA := ga_t 36 (by decide +kernel) (by decide +kernel)
set_option maxRecDepth 20000 in
theorem qw_37 : Cond.methodLink RX11 9 yJx4a65c_init_da8c8 ∈ GA := ga_t 37 (by decide +kernel) (by decide +kernel)
set_option maxRecDepth 20000 in
theorem qw_38 : Cond.instanceMethod yJx4a65c_init_da8c8 ∈ GA := ga_t 38 (by decide +kernel) (by decide +kernel)
set_option maxRecDepth 20000 in
theorem qw_39 : Cond.code yJx4a65c_init_da8c8 cJx4a65c_init_da8c8 1 none ∈ GA := ga_t 39 (by decide +kernel) (by decide +kernel)
set_option maxRecDepth 20000 in
theorem qw_40 : Cond.methodLink RJx4a65c 1 yJxc12de_init_da8c8 ∈ GA := ga_t 40 (by decide +kernel) (by decide +kernel)
set_option maxRecDepth 20000 in
theorem qw_41 : Cond.instanceMethod yJxc12de_init_da8c8 ∈ GA := ga_t 41 (by decide +kernel) (by decide +kernel)
set_option maxRecDepth 20000 in
theorem qw_42 : Cond.code yJxc12de_init_da8c8 cJxc12de_init_da8c8 1 none ∈ GA := ga_t 42 (by decide +kernel) (by decide +kernel)
set_option maxRecDepth 20000 in
theorem qw_43 : Cond.methodLink RJxc12de 1 yJxa1e45_init_da8c8 ∈ GA := ga_t 43 (by decide +kernel) (by decide +kernel)
set_option maxRecDepth 20000 in
theorem qw_44 : Cond.instanceMethod yJxa1e45_init_da8c8 ∈ GA := ga_t 44 (by decide +kernel) (by decide +kernel)
set_option maxRecDepth 20000 in
theorem qw_45 : Cond.code yJxa1e45_init_da8c8 cJxa1e45_init_da8c8 1 none ∈ GA := ga_t 45 (by decide +kernel) (by decide +kernel)
set_option maxRecDepth 20000 in
theorem qw_46 : Cond.methodLink RJxa1e45 1 objectInit ∈ GA := ga_t 46 (by decide +kernel) (by decide +kernel)
set_option maxRecDepth 20000 in
theorem qw_47 : Cond.fieldLink RJx4a65c 39 "java/util/ArrayList" "DEFAULTCAPACITY_EMPTY_ELEMENTDATA" "[Ljava/lang/Object;" ∈ GA := ga_t 47 (by decide +kernel) (by decide +kernel)
set_option maxRecDepth 20000 in
theorem qw_49 : Cond.fieldLink RJx4a65c 9 "java/util/ArrayList" "elementData" "[Ljava/lang/Object;" ∈ GA := ga_t 49 (by decide +kernel) (by decide +kernel)
set_option maxRecDepth 20000 in
theorem qw_50 : Cond.fieldLink RJx4a65c 48 "java/util/ArrayList" "size" "I" ∈ GA := ga_t 50 (by decide +kernel) (by decide +kernel)
set_option maxRecDepth 20000 in
theorem qw_51 : Cond.fieldLink RJxc12de 7 "java/util/AbstractList" "modCount" "I" ∈ GA := ga_t 51 (by decide +kernel) (by decide +kernel)
set_option maxRecDepth 20000 in
theorem qw_52 : Cond.fieldLink RJx4a65c 63 "java/util/ArrayList" "modCount" "I" ∈ GA := ga_t 52 (by decide +kernel) (by decide +kernel)
set_option maxRecDepth 20000 in
theorem qw_53 : Cond.sameField RJx4a65c "java/util/AbstractList" "modCount" "I" ∈ GA := ga_t 53 (by decide +kernel) (by decide +kernel)
set_option maxRecDepth 20000 in
theorem qw_60 : Cond.superclass RJx4a65c "java/util/AbstractList" ∈ GA := ga_t 60 (by decide +kernel) (by decide +kernel)
set_option maxRecDepth 20000 in
theorem qw_61 : Cond.classLink RX11 40 RX2 ∈ GA := ga_t 61 (by decide +kernel) (by decide +kernel)
set_option maxRecDepth 20000 in
theorem qw_62 : Cond.instantiable RX2 2 ∈ GA := ga_t 62 (by decide +kernel) (by decide +kernel)
set_option maxRecDepth 20000 in
theorem qw_63 : Cond.methodLink RX11 42 yX2_init ∈ GA := ga_t 63 (by decide +kernel) (by decide +kernel)
set_option maxRecDepth 20000 in
theorem qw_64 : Cond.instanceMethod yX2_init ∈ GA := ga_t 64 (by decide +kernel) (by decide +kernel)
set_option maxRecDepth 20000 in
theorem qw_65 : Cond.code yX2_init cX2_init 1 none ∈ GA := ga_t 65 (by decide +kernel) (by decide +kernel)
set_option maxRecDepth 20000 in
theorem qw_66 : Cond.methodLink RX2 1 objectInit ∈ GA := ga_t 66 (by decide +kernel) (by decide +kernel)
set_option maxRecDepth 20000 in
theorem qw_67 : Cond.fieldLink RX2 7 "Plotroom$Lots" "next" "I" ∈ GA := ga_t 67 (by decide +kernel) (by decide +kernel)
set_option maxRecDepth 20000 in
theorem qw_68 : Cond.fieldLink RX2 13 "Plotroom$Lots" "drawn" "I" ∈ GA := ga_t 68 (by decide +kernel) (by decide +kernel)
set_option maxRecDepth 20000 in
theorem qw_74 : Cond.superclass RX2 "java/lang/Object" ∈ GA := ga_t 74 (by decide +kernel) (by decide +kernel)
set_option maxRecDepth 20000 in
theorem qw_75 : Cond.classLink RX11 47 RX8 ∈ GA := ga_t 75 (by decide +kernel) (by decide +kernel)
set_option maxRecDepth 20000 in
theorem qw_76 : Cond.instantiable RX8 8 ∈ GA := ga_t 76 (by decide +kernel) (by decide +kernel)
set_option maxRecDepth 20000 in
theorem qw_78 : Cond.instanceMethod yX8_init ∈ GA := ga_t 78 (by decide +kernel) (by decide +kernel)
set_option maxRecDepth 20000 in
theorem qw_79 : Cond.code yX8_init cX8_init 1 none ∈ GA := ga_t 79 (by decide +kernel) (by decide +kernel)
set_option maxRecDepth 20000 in
theorem qw_80 : Cond.methodLink RX8 1 objectInit ∈ GA := ga_t 80 (by decide +kernel) (by decide +kernel)
set_option maxRecDepth 20000 in
theorem qw_105 : Cond.superclass RX8 "java/lang/Object" ∈ GA := ga_t 105 (by decide +kernel) (by decide +kernel)
set_option maxRecDepth 20000 in
theorem qw_106 : Cond.fieldLink RX11 10 "Plotroom" "masts" "Ljava/util/ArrayList;" ∈ GA := ga_t 106 (by decide +kernel) (by decide +kernel)
set_option maxRecDepth 20000 in
theorem qw_107 : Cond.fieldLink RX11 16 "Plotroom" "stations" "Ljava/util/ArrayList;" ∈ GA := ga_t 107 (by decide +kernel) (by decide +kernel)
set_option maxRecDepth 20000 in
theorem qw_108 : Cond.fieldLink RX11 19 "Plotroom" "squadrons" "Ljava/util/ArrayList;" ∈ GA := ga_t 108 (by decide +kernel) (by decide +kernel)
set_option maxRecDepth 20000 in
theorem qw_109 : Cond.fieldLink RX11 22 "Plotroom" "guns" "Ljava/util/ArrayList;" ∈ GA := ga_t 109 (by decide +kernel) (by decide +kernel)
set_option maxRecDepth 20000 in
theorem qw_110 : Cond.fieldLink RX11 25 "Plotroom" "towns" "Ljava/util/ArrayList;" ∈ GA := ga_t 110 (by decide +kernel) (by decide +kernel)
set_option maxRecDepth 20000 in
theorem qw_111 : Cond.fieldLink RX11 28 "Plotroom" "flights" "Ljava/util/ArrayList;" ∈ GA := ga_t 111 (by decide +kernel) (by decide +kernel)
set_option maxRecDepth 20000 in
theorem qw_112 : Cond.fieldLink RX11 31 "Plotroom" "plans" "Ljava/util/ArrayList;" ∈ GA := ga_t 112 (by decide +kernel) (by decide +kernel)
set_option maxRecDepth 20000 in
theorem qw_113 : Cond.fieldLink RX11 34 "Plotroom" "tracks" "Ljava/util/ArrayList;" ∈ GA := ga_t 113 (by decide +kernel) (by decide +kernel)
set_option maxRecDepth 20000 in
theorem qw_114 : Cond.fieldLink RX11 37 "Plotroom" "plots" "Ljava/util/ArrayList;" ∈ GA := ga_t 114 (by decide +kernel) (by decide +kernel)
set_option maxRecDepth 20000 in
theorem qw_115 : Cond.fieldLink RX11 438 "Plotroom" "plotsOnWay" "I" ∈ GA := ga_t 115 (by decide +kernel) (by decide +kernel)
set_option maxRecDepth 20000 in
theorem qw_116 : Cond.fieldLink RX11 43 "Plotroom" "lots" "LPlotroom$Lots;" ∈ GA := ga_t 116 (by decide +kernel) (by decide +kernel)
set_option maxRecDepth 20000 in
theorem qw_117 : Cond.fieldLink RX11 50 "Plotroom" "tally" "LPlotroom$Tally;" ∈ GA := ga_t 117 (by decide +kernel) (by decide +kernel)
set_option maxRecDepth 20000 in
theorem qw_118 : Cond.fieldLink RX11 205 "Plotroom" "minute" "I" ∈ GA := ga_t 118 (by decide +kernel) (by decide +kernel)
set_option maxRecDepth 20000 in
theorem qw_119 : Cond.fieldLink RX11 54 "Plotroom" "gateRadius" "I" ∈ GA := ga_t 119 (by decide +kernel) (by decide +kernel)
set_option maxRecDepth 20000 in
theorem qw_148 : Cond.superclass RX11 "java/lang/Object" ∈ GA := ga_t 148 (by decide +kernel) (by decide +kernel)
set_option maxRecDepth 20000 in
theorem qw_149 : Cond.methodLink RL 22 yX11_mast ∈ GA := ga_t 149 (by decide +kernel) (by decide +kernel)
set_option maxRecDepth 20000 in
theorem qw_150 : Cond.instanceMethod yX11_mast ∈ GA := ga_t 150 (by decide +kernel) (by decide +kernel)
set_option maxRecDepth 20000 in
theorem qw_151 : Cond.selects RX11 yX11_mast yX11_mast ∈ GA := ga_t 151 (by decide +kernel) (by decide +kernel)
set_option maxRecDepth 20000 in
theorem qw_152 : Cond.code yX11_mast cX11_mast 7 (some .int) ∈ GA := ga_t 152 (by decide +kernel) (by decide +kernel)
set_option maxRecDepth 20000 in
theorem qw_153 : Cond.methodLink RX11 58 yX11_isPlace ∈ GA := ga_t 153 (by decide +kernel) (by decide +kernel)
set_option maxRecDepth 20000 in
theorem qw_154 : Cond.static yX11_isPlace ∈ GA := ga_t 154 (by decide +kernel) (by decide +kernel)
set_option maxRecDepth 20000 in
theorem qw_155 : Cond.code yX11_isPlace cX11_isPlace 2 (some .boolean) ∈ GA := ga_t 155 (by decide +kernel) (by decide +kernel)
set_option maxRecDepth 20000 in
theorem qw_156 : Cond.methodLink RX11 62 yX11_isIn ∈ GA := ga_t 156 (by decide +kernel) (by decide +kernel)
set_option maxRecDepth 20000 in
theorem qw_157 : Cond.static yX11_isIn ∈ GA := ga_t 157 (by decide +kernel) (by decide +kernel)
set_option maxRecDepth 20000 in
theorem qw_158 : Cond.code yX11_isIn cX11_isIn 3 (some .boolean) ∈ GA := ga_t 158 (by decide +kernel) (by decide +kernel)
set_option maxRecDepth 20000 in
theorem qw_159 : Cond.classLink RX11 66 "java/lang/IllegalArgumentException" ∈ GA := ga_t 159 (by decide +kernel) (by decide +kernel)
set_option maxRecDepth 20000 in
theorem qw_160 : Cond.instantiable "java/lang/IllegalArgumentException" 6 ∈ GA := ga_t 160 (by decide +kernel) (by decide +kernel)
set_option maxRecDepth 20000 in
theorem qw_168 : Cond.selects "java/lang/IllegalArgumentException" ⟨"java/lang/Throwable", "fillInStackTrace", "(I)Ljava/lang/Throwable;"⟩ ⟨"java/lang/Throwable", "fillInStackTrace", "(I)Ljava/lang/Throwable;"⟩ ∈ GA := ga_t 168 (by decide +kernel) (by decide +kernel)
set_option maxRecDepth 20000 in
theorem qw_169 : Cond.selects "java/lang/IllegalArgumentException" ⟨"java/lang/Throwable", "fillInStackTrace", "()Ljava/lang/Throwable;"⟩ ⟨"java/lang/Throwable", "fillInStackTrace", "()Ljava/lang/Throwable;"⟩ ∈ GA := ga_t 169 (by decide +kernel) (by decide +kernel)
set_option maxRecDepth 20000 in
theorem qw_180 : Cond.fieldLink "java/lang/Throwable" 198 "java/lang/Throwable" "backtrace" "Ljava/lang/Object;" ∈ GA := ga_t 180 (by decide +kernel) (by decide +kernel)
set_option maxRecDepth 20000 in
theorem qw_181 : Cond.superclass "java/lang/Throwable" "java/lang/Object" ∈ GA := ga_t 181 (by decide +kernel) (by decide +kernel)
set_option maxRecDepth 20000 in
theorem qw_182 : Cond.instanceMethod ⟨"java/lang/Throwable", "<init>", "()V"⟩ ∈ GA := ga_t 182 (by decide +kernel) (by decide +kernel)
set_option maxRecDepth 20000 in
theorem qw_183 : Cond.code ⟨"java/lang/Throwable", "<init>", "()V"⟩ prog_31_method_1_code 1 none ∈ GA := ga_t 183 (by decide +kernel) (by decide +kernel)
set_option maxRecDepth 20000 in
theorem qw_184 : Cond.methodLink "java/lang/Throwable" 1 objectInit ∈ GA := ga_t 184 (by decide +kernel) (by decide +kernel)
set_option maxRecDepth 20000 in
theorem qw_185 : Cond.fieldLink "java/lang/Throwable" 13 "java/lang/Throwable" "UNASSIGNED_STACK" "[Ljava/lang/StackTraceElement;" ∈ GA := ga_t 185 (by decide +kernel) (by decide +kernel)
set_option maxRecDepth 20000 in
theorem qw_187 : Cond.fieldLink "java/lang/Throwable" 20 "java/lang/Throwable" "SUPPRESSED_SENTINEL" "Ljava/util/List;" ∈ GA := ga_t 187 (by decide +kernel) (by decide +kernel)
set_option maxRecDepth 20000 in
theorem qw_189 : Cond.methodLink "java/lang/Throwable" 27 ⟨"java/lang/Throwable", "fillInStackTrace", "()Ljava/lang/Throwable;"⟩ ∈ GA := ga_t 189 (by decide +kernel) (by decide +kernel)
set_option maxRecDepth 20000 in
theorem qw_190 : Cond.instanceMethod ⟨"java/lang/Throwable", "fillInStackTrace", "()Ljava/lang/Throwable;"⟩ ∈ GA := ga_t 190 (by decide +kernel) (by decide +kernel)
set_option maxRecDepth 20000 in
theorem qw_191 : Cond.sameMethod "java/lang/Throwable" "java/lang/Throwable" "fillInStackTrace" "()Ljava/lang/Throwable;" ∈ GA := ga_t 191 (by decide +kernel) (by decide +kernel)
set_option maxRecDepth 20000 in
theorem qw_192 : Cond.selects "java/lang/IllegalStateException" ⟨"java/lang/Throwable", "fillInStackTrace", "()Ljava/lang/Throwable;"⟩ ⟨"java/lang/Throwable", "fillInStackTrace", "()Ljava/lang/Throwable;"⟩ ∈ GA := ga_t 192 (by decide +kernel) (by decide +kernel)
set_option maxRecDepth 20000 in
theorem qw_193 : Cond.selects "java/lang/IndexOutOfBoundsException" ⟨"java/lang/Throwable", "fillInStackTrace", "()Ljava/lang/Throwable;"⟩ ⟨"java/lang/Throwable", "fillInStackTrace", "()Ljava/lang/Throwable;"⟩ ∈ GA := ga_t 193 (by decide +kernel) (by decide +kernel)
set_option maxRecDepth 20000 in
theorem qw_195 : Cond.methodLink "java/lang/Throwable" 202 ⟨"java/lang/Throwable", "fillInStackTrace", "(I)Ljava/lang/Throwable;"⟩ ∈ GA := ga_t 195 (by decide +kernel) (by decide +kernel)
set_option maxRecDepth 20000 in
theorem qw_197 : Cond.instanceMethod ⟨"java/lang/Throwable", "fillInStackTrace", "(I)Ljava/lang/Throwable;"⟩ ∈ GA := ga_t 197 (by decide +kernel) (by decide +kernel)
set_option maxRecDepth 20000 in
theorem qw_198 : Cond.instantiable "java/lang/Throwable" 6 ∈ GA := ga_t 198 (by decide +kernel) (by decide +kernel)
set_option maxRecDepth 20000 in
theorem qw_199 : Cond.native ⟨"java/lang/Throwable", "fillInStackTrace", "(I)Ljava/lang/Throwable;"⟩ ∈ GA := ga_t 199 (by decide +kernel) (by decide +kernel)
set_option maxRecDepth 20000 in
theorem qw_201 : Cond.methodLink RX11 70 ⟨"java/lang/IllegalArgumentException", "<init>", "(Ljava/lang/String;)V"⟩ ∈ GA := ga_t 201 (by decide +kernel) (by decide +kernel)
set_option maxRecDepth 20000 in
theorem qw_202 : Cond.instanceMethod ⟨"java/lang/IllegalArgumentException", "<init>", "(Ljava/lang/String;)V"⟩ ∈ GA := ga_t 202 (by decide +kernel) (by decide +kernel)
set_option maxRecDepth 20000 in
theorem qw_203 : Cond.code ⟨"java/lang/IllegalArgumentException", "<init>", "(Ljava/lang/String;)V"⟩ prog_23_method_2_code 2 none ∈ GA := ga_t 203 (by decide +kernel) (by decide +kernel)
set_option maxRecDepth 20000 in
theorem qw_204 : Cond.methodLink "java/lang/IllegalArgumentException" 7 ⟨"java/lang/RuntimeException", "<init>", "(Ljava/lang/String;)V"⟩ ∈ GA := ga_t 204 (by decide +kernel) (by decide +kernel)
set_option maxRecDepth 20000 in
theorem qw_205 : Cond.instanceMethod ⟨"java/lang/RuntimeException", "<init>", "(Ljava/lang/String;)V"⟩ ∈ GA := ga_t 205 (by decide +kernel) (by decide +kernel)
set_option maxRecDepth 20000 in
theorem qw_206 : Cond.code ⟨"java/lang/RuntimeException", "<init>", "(Ljava/lang/String;)V"⟩ prog_28_method_2_code 2 none ∈ GA := ga_t 206 (by decide +kernel) (by decide +kernel)
set_option maxRecDepth 20000 in
theorem qw_207 : Cond.methodLink "java/lang/RuntimeException" 7 ⟨"java/lang/Exception", "<init>", "(Ljava/lang/String;)V"⟩ ∈ GA := ga_t 207 (by decide +kernel) (by decide +kernel)
set_option maxRecDepth 20000 in
theorem qw_208 : Cond.instanceMethod ⟨"java/lang/Exception", "<init>", "(Ljava/lang/String;)V"⟩ ∈ GA := ga_t 208 (by decide +kernel) (by decide +kernel)
set_option maxRecDepth 20000 in
theorem qw_209 : Cond.code ⟨"java/lang/Exception", "<init>", "(Ljava/lang/String;)V"⟩ prog_22_method_2_code 2 none ∈ GA := ga_t 209 (by decide +kernel) (by decide +kernel)
set_option maxRecDepth 20000 in
theorem qw_210 : Cond.methodLink "java/lang/Exception" 7 ⟨"java/lang/Throwable", "<init>", "(Ljava/lang/String;)V"⟩ ∈ GA := ga_t 210 (by decide +kernel) (by decide +kernel)
set_option maxRecDepth 20000 in
theorem qw_211 : Cond.instanceMethod ⟨"java/lang/Throwable", "<init>", "(Ljava/lang/String;)V"⟩ ∈ GA := ga_t 211 (by decide +kernel) (by decide +kernel)
set_option maxRecDepth 20000 in
theorem qw_212 : Cond.code ⟨"java/lang/Throwable", "<init>", "(Ljava/lang/String;)V"⟩ prog_31_method_2_code 2 none ∈ GA := ga_t 212 (by decide +kernel) (by decide +kernel)
set_option maxRecDepth 20000 in
theorem qw_214 : Cond.fieldLink "java/lang/Throwable" 31 "java/lang/Throwable" "detailMessage" "Ljava/lang/String;" ∈ GA := ga_t 214 (by decide +kernel) (by decide +kernel)
set_option maxRecDepth 20000 in
theorem qw_215 : Cond.fieldLink "java/lang/Throwable" 7 "java/lang/Throwable" "cause" "Ljava/lang/Throwable;" ∈ GA := ga_t 215 (by decide +kernel) (by decide +kernel)
set_option maxRecDepth 20000 in
theorem qw_216 : Cond.fieldLink "java/lang/Throwable" 17 "java/lang/Throwable" "stackTrace" "[Ljava/lang/StackTraceElement;" ∈ GA := ga_t 216 (by decide +kernel) (by decide +kernel)
set_option maxRecDepth 20000 in
theorem qw_217 : Cond.fieldLink "java/lang/Throwable" 24 "java/lang/Throwable" "suppressedExceptions" "Ljava/util/List;" ∈ GA := ga_t 217 (by decide +kernel) (by decide +kernel)
set_option maxRecDepth 20000 in
theorem qw_225 : Cond.superclass "java/lang/IllegalArgumentException" "java/lang/RuntimeException" ∈ GA := ga_t 225 (by decide +kernel) (by decide +kernel)
set_option maxRecDepth 20000 in
theorem qw_226 : Cond.arrayClass .byte ∈ GA := ga_t 226 (by decide +kernel) (by decide +kernel)
set_option maxRecDepth 20000 in
theorem qw_227 : Cond.methodLink RX11 73 yJx4a65c_size_8abf5 ∈ GA := ga_t 227 (by decide +kernel) (by decide +kernel)
set_option maxRecDepth 20000 in
theorem qw_228 : Cond.instanceMethod yJx4a65c_size_8abf5 ∈ GA := ga_t 228 (by decide +kernel) (by decide +kernel)
set_option maxRecDepth 20000 in
theorem qw_229 : Cond.selects RJx4a65c yJx4a65c_size_8abf5 yJx4a65c_size_8abf5 ∈ GA := ga_t 229 (by decide +kernel) (by decide +kernel)
set_option maxRecDepth 20000 in
theorem qw_230 : Cond.code yJx4a65c_size_8abf5 cJx4a65c_size_8abf5 1 (some .int) ∈ GA := ga_t 230 (by decide +kernel) (by decide +kernel)
set_option maxRecDepth 20000 in
theorem qw_231 : Cond.classLink RX11 77 "java/lang/IllegalStateException" ∈ GA := ga_t 231 (by decide +kernel) (by decide +kernel)
set_option maxRecDepth 20000 in
theorem qw_232 : Cond.instantiable "java/lang/IllegalStateException" 6 ∈ GA := ga_t 232 (by decide +kernel) (by decide +kernel)
set_option maxRecDepth 20000 in
theorem qw_234 : Cond.selects "java/lang/IllegalStateException" ⟨"java/lang/Throwable", "fillInStackTrace", "(I)Ljava/lang/Throwable;"⟩ ⟨"java/lang/Throwable", "fillInStackTrace", "(I)Ljava/lang/Throwable;"⟩ ∈ GA := ga_t 234 (by decide +kernel) (by decide +kernel)
set_option maxRecDepth 20000 in
theorem qw_241 : Cond.methodLink RX11 81 ⟨"java/lang/IllegalStateException", "<init>", "(Ljava/lang/String;)V"⟩ ∈ GA := ga_t 241 (by decide +kernel) (by decide +kernel)
set_option maxRecDepth 20000 in
theorem qw_242 : Cond.instanceMethod ⟨"java/lang/IllegalStateException", "<init>", "(Ljava/lang/String;)V"⟩ ∈ GA := ga_t 242 (by decide +kernel) (by decide +kernel)
set_option maxRecDepth 20000 in
theorem qw_243 : Cond.code ⟨"java/lang/IllegalStateException", "<init>", "(Ljava/lang/String;)V"⟩ prog_24_method_2_code 2 none ∈ GA := ga_t 243 (by decide +kernel) (by decide +kernel)
set_option maxRecDepth 20000 in
theorem qw_244 : Cond.methodLink "java/lang/IllegalStateException" 7 ⟨"java/lang/RuntimeException", "<init>", "(Ljava/lang/String;)V"⟩ ∈ GA := ga_t 244 (by decide +kernel) (by decide +kernel)
set_option maxRecDepth 20000 in
theorem qw_246 : Cond.superclass "java/lang/IllegalStateException" "java/lang/RuntimeException" ∈ GA := ga_t 246 (by decide +kernel) (by decide +kernel)
set_option maxRecDepth 20000 in
theorem qw_247 : Cond.classLink RX11 82 RX3 ∈ GA := ga_t 247 (by decide +kernel) (by decide +kernel)
set_option maxRecDepth 20000 in
theorem qw_248 : Cond.instantiable RX3 10 ∈ GA := ga_t 248 (by decide +kernel) (by decide +kernel)
set_option maxRecDepth 20000 in
theorem qw_249 : Cond.methodLink RX11 84 yX3_init ∈ GA := ga_t 249 (by decide +kernel) (by decide +kernel)
set_option maxRecDepth 20000 in
theorem qw_250 : Cond.instanceMethod yX3_init ∈ GA := ga_t 250 (by decide +kernel) (by decide +kernel)
set_option maxRecDepth 20000 in
theorem qw_251 : Cond.code yX3_init cX3_init 7 none ∈ GA := ga_t 251 (by decide +kernel) (by decide +kernel)
set_option maxRecDepth 20000 in
theorem qw_252 : Cond.methodLink RX3 1 yX4_init ∈ GA := ga_t 252 (by decide +kernel) (by decide +kernel)
set_option maxRecDepth 20000 in
theorem qw_253 : Cond.instanceMethod yX4_init ∈ GA := ga_t 253 (by decide +kernel) (by decide +kernel)
set_option maxRecDepth 20000 in
theorem qw_254 : Cond.code yX4_init cX4_init 3 none ∈ GA := ga_t 254 (by decide +kernel) (by decide +kernel)
set_option maxRecDepth 20000 in
theorem qw_255 : Cond.methodLink RX4 1 objectInit ∈ GA := ga_t 255 (by decide +kernel) (by decide +kernel)
set_option maxRecDepth 20000 in
theorem qw_256 : Cond.fieldLink RX3 7 "Plotroom$Mast" "range" "I" ∈ GA := ga_t 256 (by decide +kernel) (by decide +kernel)
set_option maxRecDepth 20000 in
theorem qw_257 : Cond.fieldLink RX3 13 "Plotroom$Mast" "blind" "I" ∈ GA := ga_t 257 (by decide +kernel) (by decide +kernel)
set_option maxRecDepth 20000 in
theorem qw_258 : Cond.fieldLink RX3 16 "Plotroom$Mast" "slip" "I" ∈ GA := ga_t 258 (by decide +kernel) (by decide +kernel)
set_option maxRecDepth 20000 in
theorem qw_260 : Cond.fieldLink RX3 19 "Plotroom$Mast" "lag" "I" ∈ GA := ga_t 260 (by decide +kernel) (by decide +kernel)
set_option maxRecDepth 20000 in
theorem qw_262 : Cond.fieldLink RX3 43 "Plotroom$Mast" "isCut" "Z" ∈ GA := ga_t 262 (by decide +kernel) (by decide +kernel)
set_option maxRecDepth 20000 in
theorem qw_264 : Cond.fieldLink RX3 46 "Plotroom$Mast" "made" "I" ∈ GA := ga_t 264 (by decide +kernel) (by decide +kernel)
set_option maxRecDepth 20000 in
theorem qw_266 : Cond.fieldLink RX3 49 "Plotroom$Mast" "came" "I" ∈ GA := ga_t 266 (by decide +kernel) (by decide +kernel)
set_option maxRecDepth 20000 in
theorem qw_268 : Cond.fieldLink RX3 52 "Plotroom$Mast" "lost" "I" ∈ GA := ga_t 268 (by decide +kernel) (by decide +kernel)
set_option maxRecDepth 20000 in
theorem qw_270 : Cond.fieldLink RX7 3 "Plotroom$Place" "x" "I" ∈ GA := ga_t 270 (by decide +kernel) (by decide +kernel)
set_option maxRecDepth 20000 in
theorem qw_271 : Cond.fieldLink RX6 1 "Plotroom$Mast" "x" "I" ∈ GA := ga_t 271 (by decide +kernel) (by decide +kernel)
set_option maxRecDepth 20000 in
theorem qw_272 : Cond.sameField RX3 "Plotroom$Place" "x" "I" ∈ GA := ga_t 272 (by decide +kernel) (by decide +kernel)
set_option maxRecDepth 20000 in
theorem qw_273 : Cond.fieldLink RX10 1 "Plotroom$Plot" "x" "I" ∈ GA := ga_t 273 (by decide +kernel) (by decide +kernel)
set_option maxRecDepth 20000 in
theorem qw_274 : Cond.sameField RX6 "Plotroom$Place" "x" "I" ∈ GA := ga_t 274 (by decide +kernel) (by decide +kernel)
set_option maxRecDepth 20000 in
theorem qw_275 : Cond.fieldLink RX4 7 "Plotroom$Place" "x" "I" ∈ GA := ga_t 275 (by decide +kernel) (by decide +kernel)
set_option maxRecDepth 20000 in
theorem qw_276 : Cond.fieldLink RX10 38 "Plotroom$Track" "x" "I" ∈ GA := ga_t 276 (by decide +kernel) (by decide +kernel)
set_option maxRecDepth 20000 in
theorem qw_277 : Cond.sameField RX10 "Plotroom$Place" "x" "I" ∈ GA := ga_t 277 (by decide +kernel) (by decide +kernel)
set_option maxRecDepth 20000 in
theorem qw_278 : Cond.fieldLink RX6 22 "Plotroom$Plot" "x" "I" ∈ GA := ga_t 278 (by decide +kernel) (by decide +kernel)
set_option maxRecDepth 20000 in
theorem qw_279 : Cond.fieldLink RX0 31 "Plotroom$Flight" "x" "I" ∈ GA := ga_t 279 (by decide +kernel) (by decide +kernel)
set_option maxRecDepth 20000 in
theorem qw_280 : Cond.sameField RX0 "Plotroom$Place" "x" "I" ∈ GA := ga_t 280 (by decide +kernel) (by decide +kernel)
set_option maxRecDepth 20000 in
theorem qw_281 : Cond.fieldLink RX5 30 "Plotroom$Track" "x" "I" ∈ GA := ga_t 281 (by decide +kernel) (by decide +kernel)
set_option maxRecDepth 20000 in
theorem qw_282 : Cond.fieldLink RX3 31 "Plotroom$Flight" "x" "I" ∈ GA := ga_t 282 (by decide +kernel) (by decide +kernel)
set_option maxRecDepth 20000 in
theorem qw_283 : Cond.fieldLink RX3 41 "Plotroom$Mast" "x" "I" ∈ GA := ga_t 283 (by decide +kernel) (by decide +kernel)
set_option maxRecDepth 20000 in
theorem qw_284 : Cond.fieldLink RX7 46 "Plotroom$Squadron" "x" "I" ∈ GA := ga_t 284 (by decide +kernel) (by decide +kernel)
set_option maxRecDepth 20000 in
theorem qw_285 : Cond.sameField RX7 "Plotroom$Place" "x" "I" ∈ GA := ga_t 285 (by decide +kernel) (by decide +kernel)
set_option maxRecDepth 20000 in
theorem qw_286 : Cond.fieldLink RX11 423 "Plotroom$Flight" "x" "I" ∈ GA := ga_t 286 (by decide +kernel) (by decide +kernel)
set_option maxRecDepth 20000 in
theorem qw_287 : Cond.fieldLink RX11 513 "Plotroom$Place" "x" "I" ∈ GA := ga_t 287 (by decide +kernel) (by decide +kernel)
set_option maxRecDepth 20000 in
theorem qw_288 : Cond.fieldLink RX11 548 "Plotroom$Squadron" "x" "I" ∈ GA := ga_t 288 (by decide +kernel) (by decide +kernel)
set_option maxRecDepth 20000 in
theorem qw_289 : Cond.fieldLink RX11 554 "Plotroom$Gun" "x" "I" ∈ GA := ga_t 289 (by decide +kernel) (by decide +kernel)
set_option maxRecDepth 20000 in
theorem qw_290 : Cond.sameField RX1 "Plotroom$Place" "x" "I" ∈ GA := ga_t 290 (by decide +kernel) (by decide +kernel)
set_option maxRecDepth 20000 in
theorem qw_291 : Cond.fieldLink RX11 571 "Plotroom$Town" "x" "I" ∈ GA := ga_t 291 (by decide +kernel) (by decide +kernel)
set_option maxRecDepth 20000 in
theorem qw_292 : Cond.sameField RX9 "Plotroom$Place" "x" "I" ∈ GA := ga_t 292 (by decide +kernel) (by decide +kernel)
set_option maxRecDepth 20000 in
theorem qw_293 : Cond.fieldLink RX11 580 "Plotroom$Track" "x" "I" ∈ GA := ga_t 293 (by decide +kernel) (by decide +kernel)
set_option maxRecDepth 20000 in
theorem qw_294 : Cond.fieldLink RX7 9 "Plotroom$Place" "y" "I" ∈ GA := ga_t 294 (by decide +kernel) (by decide +kernel)
set_option maxRecDepth 20000 in
theorem qw_295 : Cond.fieldLink RX6 7 "Plotroom$Mast" "y" "I" ∈ GA := ga_t 295 (by decide +kernel) (by decide +kernel)
set_option maxRecDepth 20000 in
theorem qw_296 : Cond.sameField RX3 "Plotroom$Place" "y" "I" ∈ GA := ga_t 296 (by decide +kernel) (by decide +kernel)
set_option maxRecDepth 20000 in
theorem qw_297 : Cond.fieldLink RX10 7 "Plotroom$Plot" "y" "I" ∈ GA := ga_t 297 (by decide +kernel) (by decide +kernel)
set_option maxRecDepth 20000 in
theorem qw_298 : Cond.sameField RX6 "Plotroom$Place" "y" "I" ∈ GA := ga_t 298 (by decide +kernel) (by decide +kernel)
set_option maxRecDepth 20000 in
theorem qw_299 : Cond.fieldLink RX4 13 "Plotroom$Place" "y" "I" ∈ GA := ga_t 299 (by decide +kernel) (by decide +kernel)
set_option maxRecDepth 20000 in
theorem qw_300 : Cond.fieldLink RX6 23 "Plotroom$Plot" "y" "I" ∈ GA := ga_t 300 (by decide +kernel) (by decide +kernel)
set_option maxRecDepth 20000 in
theorem qw_301 : Cond.fieldLink RX0 34 "Plotroom$Flight" "y" "I" ∈ GA := ga_t 301 (by decide +kernel) (by decide +kernel)
set_option maxRecDepth 20000 in
theorem qw_302 : Cond.sameField RX0 "Plotroom$Place" "y" "I" ∈ GA := ga_t 302 (by decide +kernel) (by decide +kernel)
set_option maxRecDepth 20000 in
theorem qw_303 : Cond.fieldLink RX5 33 "Plotroom$Track" "y" "I" ∈ GA := ga_t 303 (by decide +kernel) (by decide +kernel)
set_option maxRecDepth 20000 in
theorem qw_304 : Cond.sameField RX10 "Plotroom$Place" "y" "I" ∈ GA := ga_t 304 (by decide +kernel) (by decide +kernel)
set_option maxRecDepth 20000 in
theorem qw_305 : Cond.fieldLink RX3 34 "Plotroom$Flight" "y" "I" ∈ GA := ga_t 305 (by decide +kernel) (by decide +kernel)
set_option maxRecDepth 20000 in
theorem qw_306 : Cond.fieldLink RX10 48 "Plotroom$Track" "y" "I" ∈ GA := ga_t 306 (by decide +kernel) (by decide +kernel)
set_option maxRecDepth 20000 in
theorem qw_307 : Cond.fieldLink RX3 42 "Plotroom$Mast" "y" "I" ∈ GA := ga_t 307 (by decide +kernel) (by decide +kernel)
set_option maxRecDepth 20000 in
theorem qw_308 : Cond.fieldLink RX7 47 "Plotroom$Squadron" "y" "I" ∈ GA := ga_t 308 (by decide +kernel) (by decide +kernel)
set_option maxRecDepth 20000 in
theorem qw_309 : Cond.sameField RX7 "Plotroom$Place" "y" "I" ∈ GA := ga_t 309 (by decide +kernel) (by decide +kernel)
set_option maxRecDepth 20000 in
theorem qw_310 : Cond.fieldLink RX11 435 "Plotroom$Flight" "y" "I" ∈ GA := ga_t 310 (by decide +kernel) (by decide +kernel)
set_option maxRecDepth 20000 in
theorem qw_311 : Cond.fieldLink RX11 514 "Plotroom$Place" "y" "I" ∈ GA := ga_t 311 (by decide +kernel) (by decide +kernel)
set_option maxRecDepth 20000 in
theorem qw_312 : Cond.fieldLink RX11 549 "Plotroom$Squadron" "y" "I" ∈ GA := ga_t 312 (by decide +kernel) (by decide +kernel)
set_option maxRecDepth 20000 in
theorem qw_313 : Cond.fieldLink RX11 555 "Plotroom$Gun" "y" "I" ∈ GA := ga_t 313 (by decide +kernel) (by decide +kernel)
set_option maxRecDepth 20000 in
theorem qw_314 : Cond.sameField RX1 "Plotroom$Place" "y" "I" ∈ GA := ga_t 314 (by decide +kernel) (by decide +kernel)
set_option maxRecDepth 20000 in
theorem qw_315 : Cond.fieldLink RX11 572 "Plotroom$Town" "y" "I" ∈ GA := ga_t 315 (by decide +kernel) (by decide +kernel)
set_option maxRecDepth 20000 in
theorem qw_316 : Cond.sameField RX9 "Plotroom$Place" "y" "I" ∈ GA := ga_t 316 (by decide +kernel) (by decide +kernel)
set_option maxRecDepth 20000 in
theorem qw_317 : Cond.fieldLink RX11 581 "Plotroom$Track" "y" "I" ∈ GA := ga_t 317 (by decide +kernel) (by decide +kernel)
set_option maxRecDepth 20000 in
theorem qw_338 : Cond.superclass RX3 "Plotroom$Place" ∈ GA := ga_t 338 (by decide +kernel) (by decide +kernel)
set_option maxRecDepth 20000 in
theorem qw_339 : Cond.methodLink RX11 87 yJx4a65c_add_9ea2d ∈ GA := ga_t 339 (by decide +kernel) (by decide +kernel)
set_option maxRecDepth 20000 in
theorem qw_340 : Cond.instanceMethod yJx4a65c_add_9ea2d ∈ GA := ga_t 340 (by decide +kernel) (by decide +kernel)
set_option maxRecDepth 20000 in
theorem qw_341 : Cond.selects RJx4a65c yJx4a65c_add_9ea2d yJx4a65c_add_9ea2d ∈ GA := ga_t 341 (by decide +kernel) (by decide +kernel)
set_option maxRecDepth 20000 in
theorem qw_342 : Cond.code yJx4a65c_add_9ea2d cJx4a65c_add_9ea2d 2 (some .boolean) ∈ GA := ga_t 342 (by decide +kernel) (by decide +kernel)
set_option maxRecDepth 20000 in
theorem qw_343 : Cond.methodLink RJx4a65c 131 yJx4a65c_add_72be8 ∈ GA := ga_t 343 (by decide +kernel) (by decide +kernel)
set_option maxRecDepth 20000 in
theorem qw_345 : Cond.instanceMethod yJx4a65c_add_72be8 ∈ GA := ga_t 345 (by decide +kernel) (by decide +kernel)
set_option maxRecDepth 20000 in
theorem qw_346 : Cond.code yJx4a65c_add_72be8 cJx4a65c_add_72be8 4 none ∈ GA := ga_t 346 (by decide +kernel) (by decide +kernel)
set_option maxRecDepth 20000 in
theorem qw_347 : Cond.methodLink RJx4a65c 129 yJx4a65c_grow_d5877 ∈ GA := ga_t 347 (by decide +kernel) (by decide +kernel)
set_option maxRecDepth 20000 in
theorem qw_349 : Cond.instanceMethod yJx4a65c_grow_d5877 ∈ GA := ga_t 349 (by decide +kernel) (by decide +kernel)
set_option maxRecDepth 20000 in
theorem qw_350 : Cond.code yJx4a65c_grow_d5877 cJx4a65c_grow_d5877 1 (some (.array (.object "java/lang/Object"))) ∈ GA := ga_t 350 (by decide +kernel) (by decide +kernel)
set_option maxRecDepth 20000 in
theorem qw_351 : Cond.methodLink RJx4a65c 69 yJx4a65c_grow_92f84 ∈ GA := ga_t 351 (by decide +kernel) (by decide +kernel)
set_option maxRecDepth 20000 in
theorem qw_353 : Cond.instanceMethod yJx4a65c_grow_92f84 ∈ GA := ga_t 353 (by decide +kernel) (by decide +kernel)
set_option maxRecDepth 20000 in
theorem qw_354 : Cond.code yJx4a65c_grow_92f84 cJx4a65c_grow_92f84 4 (some (.array (.object "java/lang/Object"))) ∈ GA := ga_t 354 (by decide +kernel) (by decide +kernel)
set_option maxRecDepth 20000 in
theorem qw_355 : Cond.methodLink RJx4a65c 73 yJ8_newLength_cabcc ∈ GA := ga_t 355 (by decide +kernel) (by decide +kernel)
set_option maxRecDepth 20000 in
theorem qw_356 : Cond.static yJ8_newLength_cabcc ∈ GA := ga_t 356 (by decide +kernel) (by decide +kernel)
set_option maxRecDepth 20000 in
theorem qw_357 : Cond.code yJ8_newLength_cabcc cJ8_newLength_cabcc 4 (some .int) ∈ GA := ga_t 357 (by decide +kernel) (by decide +kernel)
set_option maxRecDepth 20000 in
theorem qw_358 : Cond.methodLink RJ8 194 yJ9_max_7cf53 ∈ GA := ga_t 358 (by decide +kernel) (by decide +kernel)
set_option maxRecDepth 20000 in
theorem qw_359 : Cond.static yJ9_max_7cf53 ∈ GA := ga_t 359 (by decide +kernel) (by decide +kernel)
set_option maxRecDepth 20000 in
theorem qw_360 : Cond.code yJ9_max_7cf53 cJ9_max_7cf53 2 (some .int) ∈ GA := ga_t 360 (by decide +kernel) (by decide +kernel)
set_option maxRecDepth 20000 in
theorem qw_361 : Cond.constant RJ8 200 (2147483639) ∈ GA := ga_t 361 (by decide +kernel) (by decide +kernel)
set_option maxRecDepth 20000 in
theorem qw_362 : Cond.methodLink RJ8 201 yJ8_hugeLength_7cf53 ∈ GA := ga_t 362 (by decide +kernel) (by decide +kernel)
set_option maxRecDepth 20000 in
theorem qw_363 : Cond.static yJ8_hugeLength_7cf53 ∈ GA := ga_t 363 (by decide +kernel) (by decide +kernel)
set_option maxRecDepth 20000 in
theorem qw_364 : Cond.code yJ8_hugeLength_7cf53 cJ8_hugeLength_7cf53 3 (some .int) ∈ GA := ga_t 364 (by decide +kernel) (by decide +kernel)
set_option maxRecDepth 20000 in
theorem qw_365 : Cond.methodLink RJx4a65c 66 yJ7_copyOf_1904c ∈ GA := ga_t 365 (by decide +kernel) (by decide +kernel)
set_option maxRecDepth 20000 in
theorem qw_366 : Cond.static yJ7_copyOf_1904c ∈ GA := ga_t 366 (by decide +kernel) (by decide +kernel)
set_option maxRecDepth 20000 in
theorem qw_367 : Cond.code yJ7_copyOf_1904c cJ7_copyOf_1904c 2 (some (.array (.object "java/lang/Object"))) ∈ GA := ga_t 367 (by decide +kernel) (by decide +kernel)
set_option maxRecDepth 20000 in
theorem qw_368 : Cond.methodLink RJ7 86 ⟨"java/lang/Object", "getClass", "()Ljava/lang/Class;"⟩ ∈ GA := ga_t 368 (by decide +kernel) (by decide +kernel)
set_option maxRecDepth 20000 in
theorem qw_369 : Cond.instanceMethod ⟨"java/lang/Object", "getClass", "()Ljava/lang/Class;"⟩ ∈ GA := ga_t 369 (by decide +kernel) (by decide +kernel)
set_option maxRecDepth 20000 in
theorem qw_370 : Cond.sameMethod "java/lang/Object" "java/lang/Object" "getClass" "()Ljava/lang/Class;" ∈ GA := ga_t 370 (by decide +kernel) (by decide +kernel)
set_option maxRecDepth 20000 in
theorem qw_371 : Cond.selects RX11 ⟨"java/lang/Object", "getClass", "()Ljava/lang/Class;"⟩ ⟨"java/lang/Object", "getClass", "()Ljava/lang/Class;"⟩ ∈ GA := ga_t 371 (by decide +kernel) (by decide +kernel)
set_option maxRecDepth 20000 in
theorem qw_372 : Cond.selects RX0 ⟨"java/lang/Object", "getClass", "()Ljava/lang/Class;"⟩ ⟨"java/lang/Object", "getClass", "()Ljava/lang/Class;"⟩ ∈ GA := ga_t 372 (by decide +kernel) (by decide +kernel)
set_option maxRecDepth 20000 in
theorem qw_373 : Cond.selects RX1 ⟨"java/lang/Object", "getClass", "()Ljava/lang/Class;"⟩ ⟨"java/lang/Object", "getClass", "()Ljava/lang/Class;"⟩ ∈ GA := ga_t 373 (by decide +kernel) (by decide +kernel)
set_option maxRecDepth 20000 in
theorem qw_374 : Cond.selects RX2 ⟨"java/lang/Object", "getClass", "()Ljava/lang/Class;"⟩ ⟨"java/lang/Object", "getClass", "()Ljava/lang/Class;"⟩ ∈ GA := ga_t 374 (by decide +kernel) (by decide +kernel)
set_option maxRecDepth 20000 in
theorem qw_375 : Cond.selects RX3 ⟨"java/lang/Object", "getClass", "()Ljava/lang/Class;"⟩ ⟨"java/lang/Object", "getClass", "()Ljava/lang/Class;"⟩ ∈ GA := ga_t 375 (by decide +kernel) (by decide +kernel)
set_option maxRecDepth 20000 in
theorem qw_376 : Cond.selects RX4 ⟨"java/lang/Object", "getClass", "()Ljava/lang/Class;"⟩ ⟨"java/lang/Object", "getClass", "()Ljava/lang/Class;"⟩ ∈ GA := ga_t 376 (by decide +kernel) (by decide +kernel)
set_option maxRecDepth 20000 in
theorem qw_377 : Cond.selects RX6 ⟨"java/lang/Object", "getClass", "()Ljava/lang/Class;"⟩ ⟨"java/lang/Object", "getClass", "()Ljava/lang/Class;"⟩ ∈ GA := ga_t 377 (by decide +kernel) (by decide +kernel)
set_option maxRecDepth 20000 in
theorem qw_378 : Cond.selects RX7 ⟨"java/lang/Object", "getClass", "()Ljava/lang/Class;"⟩ ⟨"java/lang/Object", "getClass", "()Ljava/lang/Class;"⟩ ∈ GA := ga_t 378 (by decide +kernel) (by decide +kernel)
set_option maxRecDepth 20000 in
theorem qw_379 : Cond.selects RX8 ⟨"java/lang/Object", "getClass", "()Ljava/lang/Class;"⟩ ⟨"java/lang/Object", "getClass", "()Ljava/lang/Class;"⟩ ∈ GA := ga_t 379 (by decide +kernel) (by decide +kernel)
set_option maxRecDepth 20000 in
theorem qw_380 : Cond.selects RX9 ⟨"java/lang/Object", "getClass", "()Ljava/lang/Class;"⟩ ⟨"java/lang/Object", "getClass", "()Ljava/lang/Class;"⟩ ∈ GA := ga_t 380 (by decide +kernel) (by decide +kernel)
set_option maxRecDepth 20000 in
theorem qw_381 : Cond.selects RX10 ⟨"java/lang/Object", "getClass", "()Ljava/lang/Class;"⟩ ⟨"java/lang/Object", "getClass", "()Ljava/lang/Class;"⟩ ∈ GA := ga_t 381 (by decide +kernel) (by decide +kernel)
set_option maxRecDepth 20000 in
theorem qw_382 : Cond.selects "java/lang/IllegalArgumentException" ⟨"java/lang/Object", "getClass", "()Ljava/lang/Class;"⟩ ⟨"java/lang/Object", "getClass", "()Ljava/lang/Class;"⟩ ∈ GA := ga_t 382 (by decide +kernel) (by decide +kernel)
set_option maxRecDepth 20000 in
theorem qw_383 : Cond.selects "java/lang/IllegalStateException" ⟨"java/lang/Object", "getClass", "()Ljava/lang/Class;"⟩ ⟨"java/lang/Object", "getClass", "()Ljava/lang/Class;"⟩ ∈ GA := ga_t 383 (by decide +kernel) (by decide +kernel)
set_option maxRecDepth 20000 in
theorem qw_384 : Cond.selects "java/lang/IndexOutOfBoundsException" ⟨"java/lang/Object", "getClass", "()Ljava/lang/Class;"⟩ ⟨"java/lang/Object", "getClass", "()Ljava/lang/Class;"⟩ ∈ GA := ga_t 384 (by decide +kernel) (by decide +kernel)
set_option maxRecDepth 20000 in
theorem qw_385 : Cond.selects RJx4a65c ⟨"java/lang/Object", "getClass", "()Ljava/lang/Class;"⟩ ⟨"java/lang/Object", "getClass", "()Ljava/lang/Class;"⟩ ∈ GA := ga_t 385 (by decide +kernel) (by decide +kernel)
set_option maxRecDepth 20000 in
theorem qw_386 : Cond.native ⟨"java/lang/Object", "getClass", "()Ljava/lang/Class;"⟩ ∈ GA := ga_t 386 (by decide +kernel) (by decide +kernel)
set_option maxRecDepth 20000 in
theorem qw_387 : Cond.methodLink RJ7 300 yJ7_copyOf_6403c ∈ GA := ga_t 387 (by decide +kernel) (by decide +kernel)
set_option maxRecDepth 20000 in
theorem qw_388 : Cond.static yJ7_copyOf_6403c ∈ GA := ga_t 388 (by decide +kernel) (by decide +kernel)
set_option maxRecDepth 20000 in
theorem qw_389 : Cond.code yJ7_copyOf_6403c cJ7_copyOf_6403c 4 (some (.array (.object "java/lang/Object"))) ∈ GA := ga_t 389 (by decide +kernel) (by decide +kernel)
set_option maxRecDepth 20000 in
theorem qw_390 : Cond.classLink RJ7 110 "[Ljava/lang/Object;" ∈ GA := ga_t 390 (by decide +kernel) (by decide +kernel)
set_option maxRecDepth 20000 in
theorem qw_392 : Cond.classLink RJ7 2 "java/lang/Object" ∈ GA := ga_t 392 (by decide +kernel) (by decide +kernel)
set_option maxRecDepth 20000 in
theorem qw_393 : Cond.methodLink RJ7 304 yJ9_min_7cf53 ∈ GA := ga_t 393 (by decide +kernel) (by decide +kernel)
set_option maxRecDepth 20000 in
theorem qw_394 : Cond.static yJ9_min_7cf53 ∈ GA := ga_t 394 (by decide +kernel) (by decide +kernel)
set_option maxRecDepth 20000 in
theorem qw_395 : Cond.code yJ9_min_7cf53 cJ9_min_7cf53 2 (some .int) ∈ GA := ga_t 395 (by decide +kernel) (by decide +kernel)
set_option maxRecDepth 20000 in
theorem qw_396 : Cond.methodLink RJ7 150 arraycopyName ∈ GA := ga_t 396 (by decide +kernel) (by decide +kernel)
set_option maxRecDepth 20000 in
theorem qw_397 : Cond.static arraycopyName ∈ GA := ga_t 397 (by decide +kernel) (by decide +kernel)
set_option maxRecDepth 20000 in
theorem qw_398 : Cond.native arraycopyName ∈ GA := ga_t 398 (by decide +kernel) (by decide +kernel)
set_option maxRecDepth 20000 in
theorem qw_399 : Cond.methodLink RJx4a65c 79 yJ9_max_7cf53 ∈ GA := ga_t 399 (by decide +kernel) (by decide +kernel)
set_option maxRecDepth 20000 in
theorem qw_400 : Cond.classLink RJx4a65c 7 "java/lang/Object" ∈ GA := ga_t 400 (by decide +kernel) (by decide +kernel)
set_option maxRecDepth 20000 in
theorem qw_401 : Cond.methodLink RL 26 yX11_station ∈ GA := ga_t 401 (by decide +kernel) (by decide +kernel)
set_option maxRecDepth 20000 in
theorem qw_402 : Cond.instanceMethod yX11_station ∈ GA := ga_t 402 (by decide +kernel) (by decide +kernel)
set_option maxRecDepth 20000 in
theorem qw_403 : Cond.selects RX11 yX11_station yX11_station ∈ GA := ga_t 403 (by decide +kernel) (by decide +kernel)
set_option maxRecDepth 20000 in
theorem qw_404 : Cond.code yX11_station cX11_station 3 (some .int) ∈ GA := ga_t 404 (by decide +kernel) (by decide +kernel)
set_option maxRecDepth 20000 in
theorem qw_407 : Cond.classLink RX11 111 RX4 ∈ GA := ga_t 407 (by decide +kernel) (by decide +kernel)
set_option maxRecDepth 20000 in
theorem qw_408 : Cond.instantiable RX4 2 ∈ GA := ga_t 408 (by decide +kernel) (by decide +kernel)
set_option maxRecDepth 20000 in
theorem qw_409 : Cond.methodLink RX11 113 yX4_init ∈ GA := ga_t 409 (by decide +kernel) (by decide +kernel)
set_option maxRecDepth 20000 in
theorem qw_412 : Cond.superclass RX4 "java/lang/Object" ∈ GA := ga_t 412 (by decide +kernel) (by decide +kernel)
set_option maxRecDepth 20000 in
theorem qw_413 : Cond.methodLink RL 29 yX11_squadron ∈ GA := ga_t 413 (by decide +kernel) (by decide +kernel)
set_option maxRecDepth 20000 in
theorem qw_414 : Cond.instanceMethod yX11_squadron ∈ GA := ga_t 414 (by decide +kernel) (by decide +kernel)
set_option maxRecDepth 20000 in
theorem qw_415 : Cond.selects RX11 yX11_squadron yX11_squadron ∈ GA := ga_t 415 (by decide +kernel) (by decide +kernel)
set_option maxRecDepth 20000 in
theorem qw_416 : Cond.code yX11_squadron cX11_squadron 6 (some .int) ∈ GA := ga_t 416 (by decide +kernel) (by decide +kernel)
set_option maxRecDepth 20000 in
theorem qw_417 : Cond.methodLink RX11 91 yX11_isNumber ∈ GA := ga_t 417 (by decide +kernel) (by decide +kernel)
set_option maxRecDepth 20000 in
theorem qw_418 : Cond.static yX11_isNumber ∈ GA := ga_t 418 (by decide +kernel) (by decide +kernel)
set_option maxRecDepth 20000 in
theorem qw_419 : Cond.code yX11_isNumber cX11_isNumber 2 (some .boolean) ∈ GA := ga_t 419 (by decide +kernel) (by decide +kernel)
set_option maxRecDepth 20000 in
theorem qw_420 : Cond.classLink RX11 94 "java/lang/IndexOutOfBoundsException" ∈ GA := ga_t 420 (by decide +kernel) (by decide +kernel)
set_option maxRecDepth 20000 in
theorem qw_421 : Cond.instantiable "java/lang/IndexOutOfBoundsException" 6 ∈ GA := ga_t 421 (by decide +kernel) (by decide +kernel)
set_option maxRecDepth 20000 in
theorem qw_423 : Cond.selects "java/lang/IndexOutOfBoundsException" ⟨"java/lang/Throwable", "fillInStackTrace", "(I)Ljava/lang/Throwable;"⟩ ⟨"java/lang/Throwable", "fillInStackTrace", "(I)Ljava/lang/Throwable;"⟩ ∈ GA := ga_t 423 (by decide +kernel) (by decide +kernel)
set_option maxRecDepth 20000 in
theorem qw_430 : Cond.methodLink RX11 98 ⟨"java/lang/IndexOutOfBoundsException", "<init>", "(Ljava/lang/String;)V"⟩ ∈ GA := ga_t 430 (by decide +kernel) (by decide +kernel)
set_option maxRecDepth 20000 in
theorem qw_431 : Cond.instanceMethod ⟨"java/lang/IndexOutOfBoundsException", "<init>", "(Ljava/lang/String;)V"⟩ ∈ GA := ga_t 431 (by decide +kernel) (by decide +kernel)
set_option maxRecDepth 20000 in
theorem qw_432 : Cond.code ⟨"java/lang/IndexOutOfBoundsException", "<init>", "(Ljava/lang/String;)V"⟩ prog_25_method_2_code 2 none ∈ GA := ga_t 432 (by decide +kernel) (by decide +kernel)
set_option maxRecDepth 20000 in
theorem qw_433 : Cond.methodLink "java/lang/IndexOutOfBoundsException" 7 ⟨"java/lang/RuntimeException", "<init>", "(Ljava/lang/String;)V"⟩ ∈ GA := ga_t 433 (by decide +kernel) (by decide +kernel)
set_option maxRecDepth 20000 in
theorem qw_435 : Cond.superclass "java/lang/IndexOutOfBoundsException" "java/lang/RuntimeException" ∈ GA := ga_t 435 (by decide +kernel) (by decide +kernel)
set_option maxRecDepth 20000 in
theorem qw_438 : Cond.classLink RX11 122 RX7 ∈ GA := ga_t 438 (by decide +kernel) (by decide +kernel)
set_option maxRecDepth 20000 in
theorem qw_439 : Cond.instantiable RX7 13 ∈ GA := ga_t 439 (by decide +kernel) (by decide +kernel)
set_option maxRecDepth 20000 in
theorem qw_440 : Cond.methodLink RX11 99 yJx4a65c_get_915e3 ∈ GA := ga_t 440 (by decide +kernel) (by decide +kernel)
set_option maxRecDepth 20000 in
theorem qw_441 : Cond.instanceMethod yJx4a65c_get_915e3 ∈ GA := ga_t 441 (by decide +kernel) (by decide +kernel)
set_option maxRecDepth 20000 in
theorem qw_442 : Cond.selects RJx4a65c yJx4a65c_get_915e3 yJx4a65c_get_915e3 ∈ GA := ga_t 442 (by decide +kernel) (by decide +kernel)
set_option maxRecDepth 20000 in
theorem qw_443 : Cond.code yJx4a65c_get_915e3 cJx4a65c_get_915e3 2 (some (.object "java/lang/Object")) ∈ GA := ga_t 443 (by decide +kernel) (by decide +kernel)
set_option maxRecDepth 20000 in
theorem qw_444 : Cond.methodLink RJx4a65c 118 yJ15_checkIndex_7cf53 ∈ GA := ga_t 444 (by decide +kernel) (by decide +kernel)
set_option maxRecDepth 20000 in
theorem qw_445 : Cond.static yJ15_checkIndex_7cf53 ∈ GA := ga_t 445 (by decide +kernel) (by decide +kernel)
set_option maxRecDepth 20000 in
theorem qw_446 : Cond.code yJ15_checkIndex_7cf53 cJ15_checkIndex_7cf53 2 (some .int) ∈ GA := ga_t 446 (by decide +kernel) (by decide +kernel)
set_option maxRecDepth 20000 in
theorem qw_447 : Cond.methodLink RJ15 105 yJ3_checkIndex_8e157 ∈ GA := ga_t 447 (by decide +kernel) (by decide +kernel)
set_option maxRecDepth 20000 in
theorem qw_448 : Cond.static yJ3_checkIndex_8e157 ∈ GA := ga_t 448 (by decide +kernel) (by decide +kernel)
set_option maxRecDepth 20000 in
theorem qw_449 : Cond.code yJ3_checkIndex_8e157 cJ3_checkIndex_8e157 3 (some .int) ∈ GA := ga_t 449 (by decide +kernel) (by decide +kernel)
set_option maxRecDepth 20000 in
theorem qw_450 : Cond.methodLink RJx4a65c 123 yJx4a65c_elementData_915e3 ∈ GA := ga_t 450 (by decide +kernel) (by decide +kernel)
set_option maxRecDepth 20000 in
theorem qw_451 : Cond.instanceMethod yJx4a65c_elementData_915e3 ∈ GA := ga_t 451 (by decide +kernel) (by decide +kernel)
set_option maxRecDepth 20000 in
theorem qw_452 : Cond.selects RJx4a65c yJx4a65c_elementData_915e3 yJx4a65c_elementData_915e3 ∈ GA := ga_t 452 (by decide +kernel) (by decide +kernel)
set_option maxRecDepth 20000 in
theorem qw_453 : Cond.code yJx4a65c_elementData_915e3 cJx4a65c_elementData_915e3 2 (some (.object "java/lang/Object")) ∈ GA := ga_t 453 (by decide +kernel) (by decide +kernel)
set_option maxRecDepth 20000 in
theorem qw_454 : Cond.methodLink RX11 124 yX7_init ∈ GA := ga_t 454 (by decide +kernel) (by decide +kernel)
set_option maxRecDepth 20000 in
theorem qw_455 : Cond.instanceMethod yX7_init ∈ GA := ga_t 455 (by decide +kernel) (by decide +kernel)
set_option maxRecDepth 20000 in
theorem qw_456 : Cond.code yX7_init cX7_init 7 none ∈ GA := ga_t 456 (by decide +kernel) (by decide +kernel)
set_option maxRecDepth 20000 in
theorem qw_457 : Cond.methodLink RX7 12 yX4_init ∈ GA := ga_t 457 (by decide +kernel) (by decide +kernel)
set_option maxRecDepth 20000 in
theorem qw_458 : Cond.fieldLink RX7 16 "Plotroom$Squadron" "stationNumber" "I" ∈ GA := ga_t 458 (by decide +kernel) (by decide +kernel)
set_option maxRecDepth 20000 in
theorem qw_459 : Cond.fieldLink RX7 21 "Plotroom$Squadron" "base" "LPlotroom$Place;" ∈ GA := ga_t 459 (by decide +kernel) (by decide +kernel)
set_option maxRecDepth 20000 in
theorem qw_461 : Cond.fieldLink RX7 28 "Plotroom$Squadron" "speed" "I" ∈ GA := ga_t 461 (by decide +kernel) (by decide +kernel)
set_option maxRecDepth 20000 in
theorem qw_462 : Cond.fieldLink RX7 31 "Plotroom$Squadron" "tank" "I" ∈ GA := ga_t 462 (by decide +kernel) (by decide +kernel)
set_option maxRecDepth 20000 in
theorem qw_464 : Cond.fieldLink RX7 34 "Plotroom$Squadron" "ready" "I" ∈ GA := ga_t 464 (by decide +kernel) (by decide +kernel)
set_option maxRecDepth 20000 in
theorem qw_466 : Cond.fieldLink RX7 25 "Plotroom$Squadron" "machines" "I" ∈ GA := ga_t 466 (by decide +kernel) (by decide +kernel)
set_option maxRecDepth 20000 in
theorem qw_468 : Cond.fieldLink RX7 37 "Plotroom$Squadron" "state" "I" ∈ GA := ga_t 468 (by decide +kernel) (by decide +kernel)
set_option maxRecDepth 20000 in
theorem qw_470 : Cond.fieldLink RX7 40 "Plotroom$Squadron" "fuel" "I" ∈ GA := ga_t 470 (by decide +kernel) (by decide +kernel)
set_option maxRecDepth 20000 in
theorem qw_472 : Cond.fieldLink RX7 48 "Plotroom$Squadron" "target" "LPlotroom$Track;" ∈ GA := ga_t 472 (by decide +kernel) (by decide +kernel)
set_option maxRecDepth 20000 in
theorem qw_474 : Cond.fieldLink RX7 43 "Plotroom$Squadron" "due" "I" ∈ GA := ga_t 474 (by decide +kernel) (by decide +kernel)
set_option maxRecDepth 20000 in
theorem qw_476 : Cond.fieldLink RX7 82 "Plotroom$Squadron" "won" "I" ∈ GA := ga_t 476 (by decide +kernel) (by decide +kernel)
set_option maxRecDepth 20000 in
theorem qw_502 : Cond.superclass RX7 "Plotroom$Place" ∈ GA := ga_t 502 (by decide +kernel) (by decide +kernel)
set_option maxRecDepth 20000 in
theorem qw_503 : Cond.methodLink RL 33 yX11_gun ∈ GA := ga_t 503 (by decide +kernel) (by decide +kernel)
set_option maxRecDepth 20000 in
theorem qw_504 : Cond.instanceMethod yX11_gun ∈ GA := ga_t 504 (by decide +kernel) (by decide +kernel)
set_option maxRecDepth 20000 in
theorem qw_505 : Cond.selects RX11 yX11_gun yX11_gun ∈ GA := ga_t 505 (by decide +kernel) (by decide +kernel)
set_option maxRecDepth 20000 in
theorem qw_506 : Cond.code yX11_gun cX11_gun 4 (some .int) ∈ GA := ga_t 506 (by decide +kernel) (by decide +kernel)
set_option maxRecDepth 20000 in
theorem qw_509 : Cond.classLink RX11 131 RX1 ∈ GA := ga_t 509 (by decide +kernel) (by decide +kernel)
set_option maxRecDepth 20000 in
theorem qw_510 : Cond.instantiable RX1 4 ∈ GA := ga_t 510 (by decide +kernel) (by decide +kernel)
set_option maxRecDepth 20000 in
theorem qw_511 : Cond.methodLink RX11 133 yX1_init ∈ GA := ga_t 511 (by decide +kernel) (by decide +kernel)
set_option maxRecDepth 20000 in
theorem qw_512 : Cond.instanceMethod yX1_init ∈ GA := ga_t 512 (by decide +kernel) (by decide +kernel)
set_option maxRecDepth 20000 in
theorem qw_513 : Cond.code yX1_init cX1_init 4 none ∈ GA := ga_t 513 (by decide +kernel) (by decide +kernel)
set_option maxRecDepth 20000 in
theorem qw_514 : Cond.methodLink RX1 1 yX4_init ∈ GA := ga_t 514 (by decide +kernel) (by decide +kernel)
set_option maxRecDepth 20000 in
theorem qw_515 : Cond.fieldLink RX1 7 "Plotroom$Gun" "radius" "I" ∈ GA := ga_t 515 (by decide +kernel) (by decide +kernel)
set_option maxRecDepth 20000 in
theorem qw_524 : Cond.superclass RX1 "Plotroom$Place" ∈ GA := ga_t 524 (by decide +kernel) (by decide +kernel)
set_option maxRecDepth 20000 in
theorem qw_525 : Cond.methodLink RL 37 yX11_town ∈ GA := ga_t 525 (by decide +kernel) (by decide +kernel)
set_option maxRecDepth 20000 in
theorem qw_526 : Cond.instanceMethod yX11_town ∈ GA := ga_t 526 (by decide +kernel) (by decide +kernel)
set_option maxRecDepth 20000 in
theorem qw_527 : Cond.selects RX11 yX11_town yX11_town ∈ GA := ga_t 527 (by decide +kernel) (by decide +kernel)
set_option maxRecDepth 20000 in
theorem qw_528 : Cond.code yX11_town cX11_town 4 (some .int) ∈ GA := ga_t 528 (by decide +kernel) (by decide +kernel)
set_option maxRecDepth 20000 in
theorem qw_531 : Cond.classLink RX11 145 RX9 ∈ GA := ga_t 531 (by decide +kernel) (by decide +kernel)
set_option maxRecDepth 20000 in
theorem qw_532 : Cond.instantiable RX9 3 ∈ GA := ga_t 532 (by decide +kernel) (by decide +kernel)
set_option maxRecDepth 20000 in
theorem qw_533 : Cond.methodLink RX11 147 yX9_init ∈ GA := ga_t 533 (by decide +kernel) (by decide +kernel)
set_option maxRecDepth 20000 in
theorem qw_534 : Cond.instanceMethod yX9_init ∈ GA := ga_t 534 (by decide +kernel) (by decide +kernel)
set_option maxRecDepth 20000 in
theorem qw_535 : Cond.code yX9_init cX9_init 4 none ∈ GA := ga_t 535 (by decide +kernel) (by decide +kernel)
set_option maxRecDepth 20000 in
theorem qw_536 : Cond.methodLink RX9 1 yX4_init ∈ GA := ga_t 536 (by decide +kernel) (by decide +kernel)
set_option maxRecDepth 20000 in
theorem qw_537 : Cond.fieldLink RX9 7 "Plotroom$Town" "people" "I" ∈ GA := ga_t 537 (by decide +kernel) (by decide +kernel)
set_option maxRecDepth 20000 in
theorem qw_543 : Cond.superclass RX9 "Plotroom$Place" ∈ GA := ga_t 543 (by decide +kernel) (by decide +kernel)
set_option maxRecDepth 20000 in
theorem qw_544 : Cond.methodLink RL 43 yX11_flight ∈ GA := ga_t 544 (by decide +kernel) (by decide +kernel)
set_option maxRecDepth 20000 in
theorem qw_545 : Cond.instanceMethod yX11_flight ∈ GA := ga_t 545 (by decide +kernel) (by decide +kernel)
set_option maxRecDepth 20000 in
theorem qw_546 : Cond.selects RX11 yX11_flight yX11_flight ∈ GA := ga_t 546 (by decide +kernel) (by decide +kernel)
set_option maxRecDepth 20000 in
theorem qw_547 : Cond.code yX11_flight cX11_flight 8 (some .int) ∈ GA := ga_t 547 (by decide +kernel) (by decide +kernel)
set_option maxRecDepth 20000 in
theorem qw_548 : Cond.methodLink RX11 150 yX11_isCourse ∈ GA := ga_t 548 (by decide +kernel) (by decide +kernel)
set_option maxRecDepth 20000 in
theorem qw_549 : Cond.static yX11_isCourse ∈ GA := ga_t 549 (by decide +kernel) (by decide +kernel)
set_option maxRecDepth 20000 in
theorem qw_550 : Cond.code yX11_isCourse cX11_isCourse 2 (some .boolean) ∈ GA := ga_t 550 (by decide +kernel) (by decide +kernel)
set_option maxRecDepth 20000 in
theorem qw_553 : Cond.classLink RX11 157 RX0 ∈ GA := ga_t 553 (by decide +kernel) (by decide +kernel)
set_option maxRecDepth 20000 in
theorem qw_554 : Cond.instantiable RX0 8 ∈ GA := ga_t 554 (by decide +kernel) (by decide +kernel)
set_option maxRecDepth 20000 in
theorem qw_555 : Cond.methodLink RX11 159 yX0_init ∈ GA := ga_t 555 (by decide +kernel) (by decide +kernel)
set_option maxRecDepth 20000 in
theorem qw_556 : Cond.instanceMethod yX0_init ∈ GA := ga_t 556 (by decide +kernel) (by decide +kernel)
set_option maxRecDepth 20000 in
theorem qw_557 : Cond.code yX0_init cX0_init 8 none ∈ GA := ga_t 557 (by decide +kernel) (by decide +kernel)
set_option maxRecDepth 20000 in
theorem qw_558 : Cond.methodLink RX0 3 yX4_init ∈ GA := ga_t 558 (by decide +kernel) (by decide +kernel)
set_option maxRecDepth 20000 in
theorem qw_559 : Cond.fieldLink RX0 9 "Plotroom$Flight" "isFoe" "Z" ∈ GA := ga_t 559 (by decide +kernel) (by decide +kernel)
set_option maxRecDepth 20000 in
theorem qw_561 : Cond.fieldLink RX0 22 "Plotroom$Flight" "height" "I" ∈ GA := ga_t 561 (by decide +kernel) (by decide +kernel)
set_option maxRecDepth 20000 in
theorem qw_563 : Cond.fieldLink RX0 15 "Plotroom$Flight" "courseX" "I" ∈ GA := ga_t 563 (by decide +kernel) (by decide +kernel)
set_option maxRecDepth 20000 in
theorem qw_564 : Cond.fieldLink RX0 19 "Plotroom$Flight" "courseY" "I" ∈ GA := ga_t 564 (by decide +kernel) (by decide +kernel)
set_option maxRecDepth 20000 in
theorem qw_565 : Cond.fieldLink RX0 25 "Plotroom$Flight" "count" "I" ∈ GA := ga_t 565 (by decide +kernel) (by decide +kernel)
set_option maxRecDepth 20000 in
theorem qw_567 : Cond.fieldLink RX0 28 "Plotroom$Flight" "isUp" "Z" ∈ GA := ga_t 567 (by decide +kernel) (by decide +kernel)
set_option maxRecDepth 20000 in
theorem qw_584 : Cond.superclass RX0 "Plotroom$Place" ∈ GA := ga_t 584 (by decide +kernel) (by decide +kernel)
set_option maxRecDepth 20000 in
theorem qw_585 : Cond.methodLink RL 55 yX11_pass ∈ GA := ga_t 585 (by decide +kernel) (by decide +kernel)
set_option maxRecDepth 20000 in
theorem qw_586 : Cond.instanceMethod yX11_pass ∈ GA := ga_t 586 (by decide +kernel) (by decide +kernel)
set_option maxRecDepth 20000 in
theorem qw_587 : Cond.selects RX11 yX11_pass yX11_pass ∈ GA := ga_t 587 (by decide +kernel) (by decide +kernel)
set_option maxRecDepth 20000 in
theorem qw_588 : Cond.code yX11_pass cX11_pass 3 (some .int) ∈ GA := ga_t 588 (by decide +kernel) (by decide +kernel)
set_option maxRecDepth 20000 in
theorem qw_591 : Cond.methodLink RX11 260 yX11_passOne ∈ GA := ga_t 591 (by decide +kernel) (by decide +kernel)
set_option maxRecDepth 20000 in
theorem qw_593 : Cond.instanceMethod yX11_passOne ∈ GA := ga_t 593 (by decide +kernel) (by decide +kernel)
set_option maxRecDepth 20000 in
theorem qw_594 : Cond.code yX11_passOne cX11_passOne 2 none ∈ GA := ga_t 594 (by decide +kernel) (by decide +kernel)
set_option maxRecDepth 20000 in
theorem qw_595 : Cond.methodLink RX11 392 yX0_move ∈ GA := ga_t 595 (by decide +kernel) (by decide +kernel)
set_option maxRecDepth 20000 in
theorem qw_596 : Cond.instanceMethod yX0_move ∈ GA := ga_t 596 (by decide +kernel) (by decide +kernel)
set_option maxRecDepth 20000 in
theorem qw_597 : Cond.selects RX0 yX0_move yX0_move ∈ GA := ga_t 597 (by decide +kernel) (by decide +kernel)
set_option maxRecDepth 20000 in
theorem qw_598 : Cond.code yX0_move cX0_move 1 none ∈ GA := ga_t 598 (by decide +kernel) (by decide +kernel)
set_option maxRecDepth 20000 in
theorem qw_600 : Cond.methodLink RX11 395 yX11_makePlots ∈ GA := ga_t 600 (by decide +kernel) (by decide +kernel)
set_option maxRecDepth 20000 in
theorem qw_602 : Cond.instanceMethod yX11_makePlots ∈ GA := ga_t 602 (by decide +kernel) (by decide +kernel)
set_option maxRecDepth 20000 in
theorem qw_603 : Cond.code yX11_makePlots cX11_makePlots 5 none ∈ GA := ga_t 603 (by decide +kernel) (by decide +kernel)
set_option maxRecDepth 20000 in
theorem qw_604 : Cond.methodLink RX11 274 yX3_canSee ∈ GA := ga_t 604 (by decide +kernel) (by decide +kernel)
set_option maxRecDepth 20000 in
theorem qw_605 : Cond.instanceMethod yX3_canSee ∈ GA := ga_t 605 (by decide +kernel) (by decide +kernel)
set_option maxRecDepth 20000 in
theorem qw_606 : Cond.selects RX3 yX3_canSee yX3_canSee ∈ GA := ga_t 606 (by decide +kernel) (by decide +kernel)
set_option maxRecDepth 20000 in
theorem qw_607 : Cond.code yX3_canSee cX3_canSee 2 (some .boolean) ∈ GA := ga_t 607 (by decide +kernel) (by decide +kernel)
set_option maxRecDepth 20000 in
theorem qw_608 : Cond.methodLink RX3 37 ⟨"Plotroom$Mast", "isWithin", "(III)Z"⟩ ∈ GA := ga_t 608 (by decide +kernel) (by decide +kernel)
set_option maxRecDepth 20000 in
theorem qw_609 : Cond.sameMethod RX3 "Plotroom$Place" "isWithin" "(III)Z" ∈ GA := ga_t 609 (by decide +kernel) (by decide +kernel)
set_option maxRecDepth 20000 in
theorem qw_611 : Cond.selects RX3 ⟨"Plotroom$Mast", "isWithin", "(III)Z"⟩ yX4_isWithin ∈ GA := ga_t 611 (by decide +kernel) (by decide +kernel)
set_option maxRecDepth 20000 in
theorem qw_612 : Cond.instanceMethod yX4_isWithin ∈ GA := ga_t 612 (by decide +kernel) (by decide +kernel)
set_option maxRecDepth 20000 in
theorem qw_613 : Cond.code yX4_isWithin cX4_isWithin 6 (some .boolean) ∈ GA := ga_t 613 (by decide +kernel) (by decide +kernel)
set_option maxRecDepth 20000 in
theorem qw_614 : Cond.methodLink RX11 419 yX11_makePlot ∈ GA := ga_t 614 (by decide +kernel) (by decide +kernel)
set_option maxRecDepth 20000 in
theorem qw_616 : Cond.instanceMethod yX11_makePlot ∈ GA := ga_t 616 (by decide +kernel) (by decide +kernel)
set_option maxRecDepth 20000 in
theorem qw_617 : Cond.code yX11_makePlot cX11_makePlot 6 none ∈ GA := ga_t 617 (by decide +kernel) (by decide +kernel)
set_option maxRecDepth 20000 in
theorem qw_618 : Cond.methodLink RX11 429 yX2_slipOf ∈ GA := ga_t 618 (by decide +kernel) (by decide +kernel)
set_option maxRecDepth 20000 in
theorem qw_619 : Cond.instanceMethod yX2_slipOf ∈ GA := ga_t 619 (by decide +kernel) (by decide +kernel)
set_option maxRecDepth 20000 in
theorem qw_620 : Cond.selects RX2 yX2_slipOf yX2_slipOf ∈ GA := ga_t 620 (by decide +kernel) (by decide +kernel)
set_option maxRecDepth 20000 in
theorem qw_621 : Cond.code yX2_slipOf cX2_slipOf 2 (some .int) ∈ GA := ga_t 621 (by decide +kernel) (by decide +kernel)
set_option maxRecDepth 20000 in
theorem qw_622 : Cond.methodLink RX2 16 yX2_draw ∈ GA := ga_t 622 (by decide +kernel) (by decide +kernel)
set_option maxRecDepth 20000 in
theorem qw_623 : Cond.instanceMethod yX2_draw ∈ GA := ga_t 623 (by decide +kernel) (by decide +kernel)
set_option maxRecDepth 20000 in
theorem qw_624 : Cond.selects RX2 yX2_draw yX2_draw ∈ GA := ga_t 624 (by decide +kernel) (by decide +kernel)
set_option maxRecDepth 20000 in
theorem qw_625 : Cond.code yX2_draw cX2_draw 2 (some .int) ∈ GA := ga_t 625 (by decide +kernel) (by decide +kernel)
set_option maxRecDepth 20000 in
theorem qw_626 : Cond.methodLink RX11 432 yX11_hold ∈ GA := ga_t 626 (by decide +kernel) (by decide +kernel)
set_option maxRecDepth 20000 in
theorem qw_627 : Cond.static yX11_hold ∈ GA := ga_t 627 (by decide +kernel) (by decide +kernel)
set_option maxRecDepth 20000 in
theorem qw_628 : Cond.code yX11_hold cX11_hold 1 (some .int) ∈ GA := ga_t 628 (by decide +kernel) (by decide +kernel)
set_option maxRecDepth 20000 in
theorem qw_629 : Cond.classLink RX11 441 RX6 ∈ GA := ga_t 629 (by decide +kernel) (by decide +kernel)
set_option maxRecDepth 20000 in
theorem qw_630 : Cond.instantiable RX6 6 ∈ GA := ga_t 630 (by decide +kernel) (by decide +kernel)
set_option maxRecDepth 20000 in
theorem qw_631 : Cond.methodLink RX11 443 yX6_init ∈ GA := ga_t 631 (by decide +kernel) (by decide +kernel)
set_option maxRecDepth 20000 in
theorem qw_632 : Cond.instanceMethod yX6_init ∈ GA := ga_t 632 (by decide +kernel) (by decide +kernel)
set_option maxRecDepth 20000 in
theorem qw_633 : Cond.code yX6_init cX6_init 2 none ∈ GA := ga_t 633 (by decide +kernel) (by decide +kernel)
set_option maxRecDepth 20000 in
theorem qw_634 : Cond.methodLink RX6 10 yX4_init ∈ GA := ga_t 634 (by decide +kernel) (by decide +kernel)
set_option maxRecDepth 20000 in
theorem qw_635 : Cond.fieldLink RX6 16 "Plotroom$Plot" "mast" "LPlotroom$Mast;" ∈ GA := ga_t 635 (by decide +kernel) (by decide +kernel)
set_option maxRecDepth 20000 in
theorem qw_638 : Cond.fieldLink RX6 24 "Plotroom$Plot" "guess" "I" ∈ GA := ga_t 638 (by decide +kernel) (by decide +kernel)
set_option maxRecDepth 20000 in
theorem qw_640 : Cond.fieldLink RX6 27 "Plotroom$Plot" "seenAt" "I" ∈ GA := ga_t 640 (by decide +kernel) (by decide +kernel)
set_option maxRecDepth 20000 in
theorem qw_642 : Cond.fieldLink RX6 33 "Plotroom$Plot" "due" "I" ∈ GA := ga_t 642 (by decide +kernel) (by decide +kernel)
set_option maxRecDepth 20000 in
theorem qw_654 : Cond.superclass RX6 "Plotroom$Place" ∈ GA := ga_t 654 (by decide +kernel) (by decide +kernel)
set_option maxRecDepth 20000 in
theorem qw_655 : Cond.methodLink RX11 446 yX0_guess ∈ GA := ga_t 655 (by decide +kernel) (by decide +kernel)
set_option maxRecDepth 20000 in
theorem qw_656 : Cond.instanceMethod yX0_guess ∈ GA := ga_t 656 (by decide +kernel) (by decide +kernel)
set_option maxRecDepth 20000 in
theorem qw_657 : Cond.selects RX0 yX0_guess yX0_guess ∈ GA := ga_t 657 (by decide +kernel) (by decide +kernel)
set_option maxRecDepth 20000 in
theorem qw_658 : Cond.code yX0_guess cX0_guess 1 (some .int) ∈ GA := ga_t 658 (by decide +kernel) (by decide +kernel)
set_option maxRecDepth 20000 in
theorem qw_659 : Cond.methodLink RX11 449 yX6_write ∈ GA := ga_t 659 (by decide +kernel) (by decide +kernel)
set_option maxRecDepth 20000 in
theorem qw_660 : Cond.instanceMethod yX6_write ∈ GA := ga_t 660 (by decide +kernel) (by decide +kernel)
set_option maxRecDepth 20000 in
theorem qw_661 : Cond.selects RX6 yX6_write yX6_write ∈ GA := ga_t 661 (by decide +kernel) (by decide +kernel)
set_option maxRecDepth 20000 in
theorem qw_662 : Cond.code yX6_write cX6_write 6 none ∈ GA := ga_t 662 (by decide +kernel) (by decide +kernel)
set_option maxRecDepth 20000 in
theorem qw_663 : Cond.methodLink RX11 398 yX11_bringPlots ∈ GA := ga_t 663 (by decide +kernel) (by decide +kernel)
set_option maxRecDepth 20000 in
theorem qw_665 : Cond.instanceMethod yX11_bringPlots ∈ GA := ga_t 665 (by decide +kernel) (by decide +kernel)
set_option maxRecDepth 20000 in
theorem qw_666 : Cond.code yX11_bringPlots cX11_bringPlots 4 none ∈ GA := ga_t 666 (by decide +kernel) (by decide +kernel)
set_option maxRecDepth 20000 in
theorem qw_667 : Cond.methodLink RX11 457 yX11_bringPlot ∈ GA := ga_t 667 (by decide +kernel) (by decide +kernel)
set_option maxRecDepth 20000 in
theorem qw_669 : Cond.instanceMethod yX11_bringPlot ∈ GA := ga_t 669 (by decide +kernel) (by decide +kernel)
set_option maxRecDepth 20000 in
theorem qw_670 : Cond.code yX11_bringPlot cX11_bringPlot 3 none ∈ GA := ga_t 670 (by decide +kernel) (by decide +kernel)
set_option maxRecDepth 20000 in
theorem qw_671 : Cond.methodLink RX11 475 yX11_trackFor ∈ GA := ga_t 671 (by decide +kernel) (by decide +kernel)
set_option maxRecDepth 20000 in
theorem qw_673 : Cond.instanceMethod yX11_trackFor ∈ GA := ga_t 673 (by decide +kernel) (by decide +kernel)
set_option maxRecDepth 20000 in
theorem qw_674 : Cond.code yX11_trackFor cX11_trackFor 7 (some (.object "Plotroom$Track")) ∈ GA := ga_t 674 (by decide +kernel) (by decide +kernel)
set_option maxRecDepth 20000 in
theorem qw_675 : Cond.classLink RX11 191 RX10 ∈ GA := ga_t 675 (by decide +kernel) (by decide +kernel)
set_option maxRecDepth 20000 in
theorem qw_676 : Cond.methodLink RX11 303 yX10_xAt ∈ GA := ga_t 676 (by decide +kernel) (by decide +kernel)
set_option maxRecDepth 20000 in
theorem qw_677 : Cond.instanceMethod yX10_xAt ∈ GA := ga_t 677 (by decide +kernel) (by decide +kernel)
set_option maxRecDepth 20000 in
theorem qw_678 : Cond.selects RX10 yX10_xAt yX10_xAt ∈ GA := ga_t 678 (by decide +kernel) (by decide +kernel)
set_option maxRecDepth 20000 in
theorem qw_679 : Cond.code yX10_xAt cX10_xAt 2 (some .int) ∈ GA := ga_t 679 (by decide +kernel) (by decide +kernel)
set_option maxRecDepth 20000 in
theorem qw_681 : Cond.methodLink RX11 300 yX10_yAt ∈ GA := ga_t 681 (by decide +kernel) (by decide +kernel)
set_option maxRecDepth 20000 in
theorem qw_682 : Cond.instanceMethod yX10_yAt ∈ GA := ga_t 682 (by decide +kernel) (by decide +kernel)
set_option maxRecDepth 20000 in
theorem qw_683 : Cond.selects RX10 yX10_yAt yX10_yAt ∈ GA := ga_t 683 (by decide +kernel) (by decide +kernel)
set_option maxRecDepth 20000 in
theorem qw_684 : Cond.code yX10_yAt cX10_yAt 2 (some .int) ∈ GA := ga_t 684 (by decide +kernel) (by decide +kernel)
set_option maxRecDepth 20000 in
theorem qw_685 : Cond.methodLink RX11 491 ⟨"Plotroom$Plot", "farFrom", "(II)I"⟩ ∈ GA := ga_t 685 (by decide +kernel) (by decide +kernel)
set_option maxRecDepth 20000 in
theorem qw_686 : Cond.sameMethod RX6 "Plotroom$Place" "farFrom" "(II)I" ∈ GA := ga_t 686 (by decide +kernel) (by decide +kernel)
set_option maxRecDepth 20000 in
theorem qw_688 : Cond.selects RX6 ⟨"Plotroom$Plot", "farFrom", "(II)I"⟩ yX4_farFrom ∈ GA := ga_t 688 (by decide +kernel) (by decide +kernel)
set_option maxRecDepth 20000 in
theorem qw_689 : Cond.instanceMethod yX4_farFrom ∈ GA := ga_t 689 (by decide +kernel) (by decide +kernel)
set_option maxRecDepth 20000 in
theorem qw_690 : Cond.code yX4_farFrom cX4_farFrom 5 (some .int) ∈ GA := ga_t 690 (by decide +kernel) (by decide +kernel)
set_option maxRecDepth 20000 in
theorem qw_691 : Cond.methodLink RX11 479 yX10_take ∈ GA := ga_t 691 (by decide +kernel) (by decide +kernel)
set_option maxRecDepth 20000 in
theorem qw_692 : Cond.instanceMethod yX10_take ∈ GA := ga_t 692 (by decide +kernel) (by decide +kernel)
set_option maxRecDepth 20000 in
theorem qw_693 : Cond.selects RX10 yX10_take yX10_take ∈ GA := ga_t 693 (by decide +kernel) (by decide +kernel)
set_option maxRecDepth 20000 in
theorem qw_694 : Cond.code yX10_take cX10_take 3 none ∈ GA := ga_t 694 (by decide +kernel) (by decide +kernel)
set_option maxRecDepth 20000 in
theorem qw_695 : Cond.methodLink RX10 52 yX10_courseBy ∈ GA := ga_t 695 (by decide +kernel) (by decide +kernel)
set_option maxRecDepth 20000 in
theorem qw_697 : Cond.instanceMethod yX10_courseBy ∈ GA := ga_t 697 (by decide +kernel) (by decide +kernel)
set_option maxRecDepth 20000 in
theorem qw_698 : Cond.instantiable RX10 10 ∈ GA := ga_t 698 (by decide +kernel) (by decide +kernel)
set_option maxRecDepth 20000 in
theorem qw_699 : Cond.code yX10_courseBy cX10_courseBy 3 (some .int) ∈ GA := ga_t 699 (by decide +kernel) (by decide +kernel)
set_option maxRecDepth 20000 in
theorem qw_700 : Cond.methodLink RX10 59 yJ9_max_7cf53 ∈ GA := ga_t 700 (by decide +kernel) (by decide +kernel)
set_option maxRecDepth 20000 in
theorem qw_701 : Cond.methodLink RX11 482 yX10_init ∈ GA := ga_t 701 (by decide +kernel) (by decide +kernel)
set_option maxRecDepth 20000 in
theorem qw_702 : Cond.instanceMethod yX10_init ∈ GA := ga_t 702 (by decide +kernel) (by decide +kernel)
set_option maxRecDepth 20000 in
theorem qw_703 : Cond.code yX10_init cX10_init 3 none ∈ GA := ga_t 703 (by decide +kernel) (by decide +kernel)
set_option maxRecDepth 20000 in
theorem qw_704 : Cond.methodLink RX10 10 yX4_init ∈ GA := ga_t 704 (by decide +kernel) (by decide +kernel)
set_option maxRecDepth 20000 in
theorem qw_705 : Cond.fieldLink RX10 16 "Plotroom$Track" "number" "I" ∈ GA := ga_t 705 (by decide +kernel) (by decide +kernel)
set_option maxRecDepth 20000 in
theorem qw_708 : Cond.fieldLink RX10 24 "Plotroom$Track" "minute" "I" ∈ GA := ga_t 708 (by decide +kernel) (by decide +kernel)
set_option maxRecDepth 20000 in
theorem qw_711 : Cond.fieldLink RX10 39 "Plotroom$Track" "courseX" "I" ∈ GA := ga_t 711 (by decide +kernel) (by decide +kernel)
set_option maxRecDepth 20000 in
theorem qw_712 : Cond.fieldLink RX10 49 "Plotroom$Track" "courseY" "I" ∈ GA := ga_t 712 (by decide +kernel) (by decide +kernel)
set_option maxRecDepth 20000 in
theorem qw_713 : Cond.fieldLink RX10 56 "Plotroom$Track" "hasCourse" "Z" ∈ GA := ga_t 713 (by decide +kernel) (by decide +kernel)
set_option maxRecDepth 20000 in
theorem qw_714 : Cond.fieldLink RX10 30 "Plotroom$Track" "guess" "I" ∈ GA := ga_t 714 (by decide +kernel) (by decide +kernel)
set_option maxRecDepth 20000 in
theorem qw_715 : Cond.fieldLink RX10 31 "Plotroom$Track" "hits" "I" ∈ GA := ga_t 715 (by decide +kernel) (by decide +kernel)
set_option maxRecDepth 20000 in
theorem qw_717 : Cond.fieldLink RX10 34 "Plotroom$Track" "isLive" "Z" ∈ GA := ga_t 717 (by decide +kernel) (by decide +kernel)
set_option maxRecDepth 20000 in
theorem qw_737 : Cond.superclass RX10 "Plotroom$Place" ∈ GA := ga_t 737 (by decide +kernel) (by decide +kernel)
set_option maxRecDepth 20000 in
theorem qw_738 : Cond.methodLink RX11 461 yJx4a65c_set_bcc79 ∈ GA := ga_t 738 (by decide +kernel) (by decide +kernel)
set_option maxRecDepth 20000 in
theorem qw_739 : Cond.instanceMethod yJx4a65c_set_bcc79 ∈ GA := ga_t 739 (by decide +kernel) (by decide +kernel)
set_option maxRecDepth 20000 in
theorem qw_740 : Cond.selects RJx4a65c yJx4a65c_set_bcc79 yJx4a65c_set_bcc79 ∈ GA := ga_t 740 (by decide +kernel) (by decide +kernel)
set_option maxRecDepth 20000 in
theorem qw_741 : Cond.code yJx4a65c_set_bcc79 cJx4a65c_set_bcc79 4 (some (.object "java/lang/Object")) ∈ GA := ga_t 741 (by decide +kernel) (by decide +kernel)
set_option maxRecDepth 20000 in
theorem qw_742 : Cond.methodLink RX11 401 yX11_takeTurn ∈ GA := ga_t 742 (by decide +kernel) (by decide +kernel)
set_option maxRecDepth 20000 in
theorem qw_744 : Cond.instanceMethod yX11_takeTurn ∈ GA := ga_t 744 (by decide +kernel) (by decide +kernel)
set_option maxRecDepth 20000 in
theorem qw_745 : Cond.code yX11_takeTurn cX11_takeTurn 2 none ∈ GA := ga_t 745 (by decide +kernel) (by decide +kernel)
set_option maxRecDepth 20000 in
theorem qw_746 : Cond.methodLink RX11 494 yX7_comeUp ∈ GA := ga_t 746 (by decide +kernel) (by decide +kernel)
set_option maxRecDepth 20000 in
theorem qw_747 : Cond.instanceMethod yX7_comeUp ∈ GA := ga_t 747 (by decide +kernel) (by decide +kernel)
set_option maxRecDepth 20000 in
theorem qw_748 : Cond.selects RX7 yX7_comeUp yX7_comeUp ∈ GA := ga_t 748 (by decide +kernel) (by decide +kernel)
set_option maxRecDepth 20000 in
theorem qw_749 : Cond.code yX7_comeUp cX7_comeUp 1 none ∈ GA := ga_t 749 (by decide +kernel) (by decide +kernel)
set_option maxRecDepth 20000 in
theorem qw_750 : Cond.methodLink RX11 497 yX11_fly ∈ GA := ga_t 750 (by decide +kernel) (by decide +kernel)
set_option maxRecDepth 20000 in
theorem qw_752 : Cond.instanceMethod yX11_fly ∈ GA := ga_t 752 (by decide +kernel) (by decide +kernel)
set_option maxRecDepth 20000 in
theorem qw_753 : Cond.code yX11_fly cX11_fly 3 none ∈ GA := ga_t 753 (by decide +kernel) (by decide +kernel)
set_option maxRecDepth 20000 in
theorem qw_754 : Cond.methodLink RX11 503 yX7_minutesBack ∈ GA := ga_t 754 (by decide +kernel) (by decide +kernel)
set_option maxRecDepth 20000 in
theorem qw_755 : Cond.instanceMethod yX7_minutesBack ∈ GA := ga_t 755 (by decide +kernel) (by decide +kernel)
set_option maxRecDepth 20000 in
theorem qw_756 : Cond.selects RX7 yX7_minutesBack yX7_minutesBack ∈ GA := ga_t 756 (by decide +kernel) (by decide +kernel)
set_option maxRecDepth 20000 in
theorem qw_757 : Cond.code yX7_minutesBack cX7_minutesBack 2 (some .int) ∈ GA := ga_t 757 (by decide +kernel) (by decide +kernel)
set_option maxRecDepth 20000 in
theorem qw_758 : Cond.methodLink RX7 57 ⟨"Plotroom$Squadron", "isWithin", "(III)Z"⟩ ∈ GA := ga_t 758 (by decide +kernel) (by decide +kernel)
set_option maxRecDepth 20000 in
theorem qw_759 : Cond.sameMethod RX7 "Plotroom$Place" "isWithin" "(III)Z" ∈ GA := ga_t 759 (by decide +kernel) (by decide +kernel)
set_option maxRecDepth 20000 in
theorem qw_760 : Cond.selects RX7 ⟨"Plotroom$Squadron", "isWithin", "(III)Z"⟩ yX4_isWithin ∈ GA := ga_t 760 (by decide +kernel) (by decide +kernel)
set_option maxRecDepth 20000 in
theorem qw_761 : Cond.methodLink RX11 506 yX7_go ∈ GA := ga_t 761 (by decide +kernel) (by decide +kernel)
set_option maxRecDepth 20000 in
theorem qw_762 : Cond.instanceMethod yX7_go ∈ GA := ga_t 762 (by decide +kernel) (by decide +kernel)
set_option maxRecDepth 20000 in
theorem qw_763 : Cond.selects RX7 yX7_go yX7_go ∈ GA := ga_t 763 (by decide +kernel) (by decide +kernel)
set_option maxRecDepth 20000 in
theorem qw_764 : Cond.code yX7_go cX7_go 4 none ∈ GA := ga_t 764 (by decide +kernel) (by decide +kernel)
set_option maxRecDepth 20000 in
theorem qw_765 : Cond.methodLink RX7 61 ⟨"Plotroom$Squadron", "farFrom", "(II)I"⟩ ∈ GA := ga_t 765 (by decide +kernel) (by decide +kernel)
set_option maxRecDepth 20000 in
theorem qw_766 : Cond.sameMethod RX7 "Plotroom$Place" "farFrom" "(II)I" ∈ GA := ga_t 766 (by decide +kernel) (by decide +kernel)
set_option maxRecDepth 20000 in
theorem qw_767 : Cond.selects RX7 ⟨"Plotroom$Squadron", "farFrom", "(II)I"⟩ yX4_farFrom ∈ GA := ga_t 767 (by decide +kernel) (by decide +kernel)
set_option maxRecDepth 20000 in
theorem qw_769 : Cond.static yX11_rootAbove ∈ GA := ga_t 769 (by decide +kernel) (by decide +kernel)
set_option maxRecDepth 20000 in
theorem qw_770 : Cond.code yX11_rootAbove cX11_rootAbove 2 (some .int) ∈ GA := ga_t 770 (by decide +kernel) (by decide +kernel)
set_option maxRecDepth 20000 in
theorem qw_771 : Cond.methodLink RX11 240 yX7_headHome ∈ GA := ga_t 771 (by decide +kernel) (by decide +kernel)
set_option maxRecDepth 20000 in
theorem qw_772 : Cond.instanceMethod yX7_headHome ∈ GA := ga_t 772 (by decide +kernel) (by decide +kernel)
set_option maxRecDepth 20000 in
theorem qw_773 : Cond.selects RX7 yX7_headHome yX7_headHome ∈ GA := ga_t 773 (by decide +kernel) (by decide +kernel)
set_option maxRecDepth 20000 in
theorem qw_774 : Cond.code yX7_headHome cX7_headHome 1 none ∈ GA := ga_t 774 (by decide +kernel) (by decide +kernel)
set_option maxRecDepth 20000 in
theorem qw_775 : Cond.methodLink RX11 515 yX7_isAtBase ∈ GA := ga_t 775 (by decide +kernel) (by decide +kernel)
set_option maxRecDepth 20000 in
theorem qw_776 : Cond.instanceMethod yX7_isAtBase ∈ GA := ga_t 776 (by decide +kernel) (by decide +kernel)
set_option maxRecDepth 20000 in
theorem qw_777 : Cond.selects RX7 yX7_isAtBase yX7_isAtBase ∈ GA := ga_t 777 (by decide +kernel) (by decide +kernel)
set_option maxRecDepth 20000 in
theorem qw_778 : Cond.code yX7_isAtBase cX7_isAtBase 1 (some .boolean) ∈ GA := ga_t 778 (by decide +kernel) (by decide +kernel)
set_option maxRecDepth 20000 in
theorem qw_779 : Cond.methodLink RX11 237 yX7_rest ∈ GA := ga_t 779 (by decide +kernel) (by decide +kernel)
set_option maxRecDepth 20000 in
theorem qw_780 : Cond.instanceMethod yX7_rest ∈ GA := ga_t 780 (by decide +kernel) (by decide +kernel)
set_option maxRecDepth 20000 in
theorem qw_781 : Cond.selects RX7 yX7_rest yX7_rest ∈ GA := ga_t 781 (by decide +kernel) (by decide +kernel)
set_option maxRecDepth 20000 in
theorem qw_782 : Cond.code yX7_rest cX7_rest 3 none ∈ GA := ga_t 782 (by decide +kernel) (by decide +kernel)
set_option maxRecDepth 20000 in
theorem qw_783 : Cond.methodLink RX11 518 yX11_loseMachines ∈ GA := ga_t 783 (by decide +kernel) (by decide +kernel)
set_option maxRecDepth 20000 in
theorem qw_785 : Cond.instanceMethod yX11_loseMachines ∈ GA := ga_t 785 (by decide +kernel) (by decide +kernel)
set_option maxRecDepth 20000 in
theorem qw_786 : Cond.code yX11_loseMachines cX11_loseMachines 3 none ∈ GA := ga_t 786 (by decide +kernel) (by decide +kernel)
set_option maxRecDepth 20000 in
theorem qw_787 : Cond.methodLink RX11 405 yX11_fightWith ∈ GA := ga_t 787 (by decide +kernel) (by decide +kernel)
set_option maxRecDepth 20000 in
theorem qw_789 : Cond.instanceMethod yX11_fightWith ∈ GA := ga_t 789 (by decide +kernel) (by decide +kernel)
set_option maxRecDepth 20000 in
theorem qw_790 : Cond.code yX11_fightWith cX11_fightWith 5 none ∈ GA := ga_t 790 (by decide +kernel) (by decide +kernel)
set_option maxRecDepth 20000 in
theorem qw_791 : Cond.methodLink RX11 525 yX11_foeNear ∈ GA := ga_t 791 (by decide +kernel) (by decide +kernel)
set_option maxRecDepth 20000 in
theorem qw_793 : Cond.instanceMethod yX11_foeNear ∈ GA := ga_t 793 (by decide +kernel) (by decide +kernel)
set_option maxRecDepth 20000 in
theorem qw_794 : Cond.code yX11_foeNear cX11_foeNear 7 (some (.object "Plotroom$Flight")) ∈ GA := ga_t 794 (by decide +kernel) (by decide +kernel)
set_option maxRecDepth 20000 in
theorem qw_795 : Cond.methodLink RX11 550 ⟨"Plotroom$Flight", "farFrom", "(II)I"⟩ ∈ GA := ga_t 795 (by decide +kernel) (by decide +kernel)
set_option maxRecDepth 20000 in
theorem qw_796 : Cond.sameMethod RX0 "Plotroom$Place" "farFrom" "(II)I" ∈ GA := ga_t 796 (by decide +kernel) (by decide +kernel)
set_option maxRecDepth 20000 in
theorem qw_797 : Cond.selects RX0 ⟨"Plotroom$Flight", "farFrom", "(II)I"⟩ yX4_farFrom ∈ GA := ga_t 797 (by decide +kernel) (by decide +kernel)
set_option maxRecDepth 20000 in
theorem qw_798 : Cond.methodLink RX11 529 yX2_draw ∈ GA := ga_t 798 (by decide +kernel) (by decide +kernel)
set_option maxRecDepth 20000 in
theorem qw_799 : Cond.methodLink RX11 353 yX11_winOf ∈ GA := ga_t 799 (by decide +kernel) (by decide +kernel)
set_option maxRecDepth 20000 in
theorem qw_800 : Cond.static yX11_winOf ∈ GA := ga_t 800 (by decide +kernel) (by decide +kernel)
set_option maxRecDepth 20000 in
theorem qw_801 : Cond.code yX11_winOf cX11_winOf 3 (some .int) ∈ GA := ga_t 801 (by decide +kernel) (by decide +kernel)
set_option maxRecDepth 20000 in
theorem qw_802 : Cond.methodLink RX11 250 yJ9_min_7cf53 ∈ GA := ga_t 802 (by decide +kernel) (by decide +kernel)
set_option maxRecDepth 20000 in
theorem qw_803 : Cond.methodLink RX11 532 yX0_lose ∈ GA := ga_t 803 (by decide +kernel) (by decide +kernel)
set_option maxRecDepth 20000 in
theorem qw_804 : Cond.instanceMethod yX0_lose ∈ GA := ga_t 804 (by decide +kernel) (by decide +kernel)
set_option maxRecDepth 20000 in
theorem qw_805 : Cond.selects RX0 yX0_lose yX0_lose ∈ GA := ga_t 805 (by decide +kernel) (by decide +kernel)
set_option maxRecDepth 20000 in
theorem qw_806 : Cond.code yX0_lose cX0_lose 2 none ∈ GA := ga_t 806 (by decide +kernel) (by decide +kernel)
set_option maxRecDepth 20000 in
theorem qw_807 : Cond.methodLink RX11 408 yX11_fireGun ∈ GA := ga_t 807 (by decide +kernel) (by decide +kernel)
set_option maxRecDepth 20000 in
theorem qw_809 : Cond.instanceMethod yX11_fireGun ∈ GA := ga_t 809 (by decide +kernel) (by decide +kernel)
set_option maxRecDepth 20000 in
theorem qw_810 : Cond.code yX11_fireGun cX11_fireGun 4 none ∈ GA := ga_t 810 (by decide +kernel) (by decide +kernel)
set_option maxRecDepth 20000 in
theorem qw_811 : Cond.methodLink RX11 556 yX11_isSquadronWithin ∈ GA := ga_t 811 (by decide +kernel) (by decide +kernel)
set_option maxRecDepth 20000 in
theorem qw_813 : Cond.instanceMethod yX11_isSquadronWithin ∈ GA := ga_t 813 (by decide +kernel) (by decide +kernel)
set_option maxRecDepth 20000 in
theorem qw_814 : Cond.code yX11_isSquadronWithin cX11_isSquadronWithin 6 (some .boolean) ∈ GA := ga_t 814 (by decide +kernel) (by decide +kernel)
set_option maxRecDepth 20000 in
theorem qw_815 : Cond.methodLink RX11 340 yX7_isInAir ∈ GA := ga_t 815 (by decide +kernel) (by decide +kernel)
set_option maxRecDepth 20000 in
theorem qw_816 : Cond.instanceMethod yX7_isInAir ∈ GA := ga_t 816 (by decide +kernel) (by decide +kernel)
set_option maxRecDepth 20000 in
theorem qw_817 : Cond.selects RX7 yX7_isInAir yX7_isInAir ∈ GA := ga_t 817 (by decide +kernel) (by decide +kernel)
set_option maxRecDepth 20000 in
theorem qw_818 : Cond.code yX7_isInAir cX7_isInAir 1 (some .boolean) ∈ GA := ga_t 818 (by decide +kernel) (by decide +kernel)
set_option maxRecDepth 20000 in
theorem qw_819 : Cond.methodLink RX11 585 ⟨"Plotroom$Squadron", "isWithin", "(III)Z"⟩ ∈ GA := ga_t 819 (by decide +kernel) (by decide +kernel)
set_option maxRecDepth 20000 in
theorem qw_820 : Cond.methodLink RX11 559 ⟨"Plotroom$Flight", "isWithin", "(III)Z"⟩ ∈ GA := ga_t 820 (by decide +kernel) (by decide +kernel)
set_option maxRecDepth 20000 in
theorem qw_821 : Cond.sameMethod RX0 "Plotroom$Place" "isWithin" "(III)Z" ∈ GA := ga_t 821 (by decide +kernel) (by decide +kernel)
set_option maxRecDepth 20000 in
theorem qw_822 : Cond.selects RX0 ⟨"Plotroom$Flight", "isWithin", "(III)Z"⟩ yX4_isWithin ∈ GA := ga_t 822 (by decide +kernel) (by decide +kernel)
set_option maxRecDepth 20000 in
theorem qw_823 : Cond.methodLink RX11 412 yX11_loseTracks ∈ GA := ga_t 823 (by decide +kernel) (by decide +kernel)
set_option maxRecDepth 20000 in
theorem qw_825 : Cond.instanceMethod yX11_loseTracks ∈ GA := ga_t 825 (by decide +kernel) (by decide +kernel)
set_option maxRecDepth 20000 in
theorem qw_826 : Cond.code yX11_loseTracks cX11_loseTracks 3 none ∈ GA := ga_t 826 (by decide +kernel) (by decide +kernel)
set_option maxRecDepth 20000 in
theorem qw_827 : Cond.methodLink RX11 415 yX11_countTown ∈ GA := ga_t 827 (by decide +kernel) (by decide +kernel)
set_option maxRecDepth 20000 in
theorem qw_829 : Cond.instanceMethod yX11_countTown ∈ GA := ga_t 829 (by decide +kernel) (by decide +kernel)
set_option maxRecDepth 20000 in
theorem qw_830 : Cond.code yX11_countTown cX11_countTown 4 none ∈ GA := ga_t 830 (by decide +kernel) (by decide +kernel)
set_option maxRecDepth 20000 in
theorem qw_831 : Cond.methodLink RX11 312 yX11_minutesToThreat ∈ GA := ga_t 831 (by decide +kernel) (by decide +kernel)
set_option maxRecDepth 20000 in
theorem qw_833 : Cond.instanceMethod yX11_minutesToThreat ∈ GA := ga_t 833 (by decide +kernel) (by decide +kernel)
set_option maxRecDepth 20000 in
theorem qw_834 : Cond.code yX11_minutesToThreat cX11_minutesToThreat 7 (some .int) ∈ GA := ga_t 834 (by decide +kernel) (by decide +kernel)
set_option maxRecDepth 20000 in
theorem qw_835 : Cond.methodLink RX11 589 yX11_kindOf ∈ GA := ga_t 835 (by decide +kernel) (by decide +kernel)
set_option maxRecDepth 20000 in
theorem qw_837 : Cond.instanceMethod yX11_kindOf ∈ GA := ga_t 837 (by decide +kernel) (by decide +kernel)
set_option maxRecDepth 20000 in
theorem qw_838 : Cond.code yX11_kindOf cX11_kindOf 3 (some .int) ∈ GA := ga_t 838 (by decide +kernel) (by decide +kernel)
set_option maxRecDepth 20000 in
theorem qw_839 : Cond.classLink RX11 184 RX5 ∈ GA := ga_t 839 (by decide +kernel) (by decide +kernel)
set_option maxRecDepth 20000 in
theorem qw_840 : Cond.methodLink RX11 576 yX5_covers ∈ GA := ga_t 840 (by decide +kernel) (by decide +kernel)
set_option maxRecDepth 20000 in
theorem qw_841 : Cond.instanceMethod yX5_covers ∈ GA := ga_t 841 (by decide +kernel) (by decide +kernel)
set_option maxRecDepth 20000 in
theorem qw_842 : Cond.selects RX5 yX5_covers yX5_covers ∈ GA := ga_t 842 (by decide +kernel) (by decide +kernel)
set_option maxRecDepth 20000 in
theorem qw_843 : Cond.code yX5_covers cX5_covers 2 (some .boolean) ∈ GA := ga_t 843 (by decide +kernel) (by decide +kernel)
set_option maxRecDepth 20000 in
theorem qw_845 : Cond.methodLink RX5 36 ⟨"Plotroom$Plan", "isWithin", "(III)Z"⟩ ∈ GA := ga_t 845 (by decide +kernel) (by decide +kernel)
set_option maxRecDepth 20000 in
theorem qw_846 : Cond.sameMethod RX5 "Plotroom$Place" "isWithin" "(III)Z" ∈ GA := ga_t 846 (by decide +kernel) (by decide +kernel)
set_option maxRecDepth 20000 in
theorem qw_847 : Cond.methodLink RX11 592 yX11_minutesToNear ∈ GA := ga_t 847 (by decide +kernel) (by decide +kernel)
set_option maxRecDepth 20000 in
theorem qw_849 : Cond.instanceMethod yX11_minutesToNear ∈ GA := ga_t 849 (by decide +kernel) (by decide +kernel)
set_option maxRecDepth 20000 in
theorem qw_850 : Cond.code yX11_minutesToNear cX11_minutesToNear 5 (some .int) ∈ GA := ga_t 850 (by decide +kernel) (by decide +kernel)
set_option maxRecDepth 20000 in
theorem qw_851 : Cond.methodLink RX11 596 ⟨"Plotroom$Town", "isWithin", "(III)Z"⟩ ∈ GA := ga_t 851 (by decide +kernel) (by decide +kernel)
set_option maxRecDepth 20000 in
theorem qw_852 : Cond.sameMethod RX9 "Plotroom$Place" "isWithin" "(III)Z" ∈ GA := ga_t 852 (by decide +kernel) (by decide +kernel)
set_option maxRecDepth 20000 in
theorem qw_853 : Cond.selects RX9 ⟨"Plotroom$Town", "isWithin", "(III)Z"⟩ yX4_isWithin ∈ GA := ga_t 853 (by decide +kernel) (by decide +kernel)
set_option maxRecDepth 20000 in
theorem qw_854 : Cond.methodLink RL 76 yX11_call ∈ GA := ga_t 854 (by decide +kernel) (by decide +kernel)
set_option maxRecDepth 20000 in
theorem qw_855 : Cond.instanceMethod yX11_call ∈ GA := ga_t 855 (by decide +kernel) (by decide +kernel)
set_option maxRecDepth 20000 in
theorem qw_856 : Cond.selects RX11 yX11_call yX11_call ∈ GA := ga_t 856 (by decide +kernel) (by decide +kernel)
set_option maxRecDepth 20000 in
theorem qw_857 : Cond.code yX11_call cX11_call 1 (some .int) ∈ GA := ga_t 857 (by decide +kernel) (by decide +kernel)
set_option maxRecDepth 20000 in
theorem qw_858 : Cond.methodLink RL 40 yX11_ofSquadron ∈ GA := ga_t 858 (by decide +kernel) (by decide +kernel)
set_option maxRecDepth 20000 in
theorem qw_859 : Cond.instanceMethod yX11_ofSquadron ∈ GA := ga_t 859 (by decide +kernel) (by decide +kernel)
set_option maxRecDepth 20000 in
theorem qw_860 : Cond.selects RX11 yX11_ofSquadron yX11_ofSquadron ∈ GA := ga_t 860 (by decide +kernel) (by decide +kernel)
set_option maxRecDepth 20000 in
theorem qw_861 : Cond.code yX11_ofSquadron cX11_ofSquadron 3 (some .int) ∈ GA := ga_t 861 (by decide +kernel) (by decide +kernel)
set_option maxRecDepth 20000 in
theorem qw_864 : Cond.methodLink RX11 283 yX7_tell ∈ GA := ga_t 864 (by decide +kernel) (by decide +kernel)
set_option maxRecDepth 20000 in
theorem qw_865 : Cond.instanceMethod yX7_tell ∈ GA := ga_t 865 (by decide +kernel) (by decide +kernel)
set_option maxRecDepth 20000 in
theorem qw_866 : Cond.selects RX7 yX7_tell yX7_tell ∈ GA := ga_t 866 (by decide +kernel) (by decide +kernel)
set_option maxRecDepth 20000 in
theorem qw_867 : Cond.code yX7_tell cX7_tell 2 (some .int) ∈ GA := ga_t 867 (by decide +kernel) (by decide +kernel)
set_option maxRecDepth 20000 in
theorem qw_868 : Cond.methodLink RX7 75 yX7_targetNumber ∈ GA := ga_t 868 (by decide +kernel) (by decide +kernel)
set_option maxRecDepth 20000 in
theorem qw_869 : Cond.instanceMethod yX7_targetNumber ∈ GA := ga_t 869 (by decide +kernel) (by decide +kernel)
set_option maxRecDepth 20000 in
theorem qw_870 : Cond.selects RX7 yX7_targetNumber yX7_targetNumber ∈ GA := ga_t 870 (by decide +kernel) (by decide +kernel)
set_option maxRecDepth 20000 in
theorem qw_871 : Cond.code yX7_targetNumber cX7_targetNumber 1 (some .int) ∈ GA := ga_t 871 (by decide +kernel) (by decide +kernel)
set_option maxRecDepth 20000 in
theorem qw_872 : Cond.methodLink RX7 79 yX7_minutesBack ∈ GA := ga_t 872 (by decide +kernel) (by decide +kernel)
set_option maxRecDepth 20000 in
theorem qw_873 : Cond.methodLink RL 51 yX11_room ∈ GA := ga_t 873 (by decide +kernel) (by decide +kernel)
set_option maxRecDepth 20000 in
theorem qw_874 : Cond.instanceMethod yX11_room ∈ GA := ga_t 874 (by decide +kernel) (by decide +kernel)
set_option maxRecDepth 20000 in
theorem qw_875 : Cond.selects RX11 yX11_room yX11_room ∈ GA := ga_t 875 (by decide +kernel) (by decide +kernel)
set_option maxRecDepth 20000 in
theorem qw_876 : Cond.code yX11_room cX11_room 2 (some .int) ∈ GA := ga_t 876 (by decide +kernel) (by decide +kernel)
set_option maxRecDepth 20000 in
theorem qw_878 : Cond.methodLink RX11 286 yX11_tellRoom ∈ GA := ga_t 878 (by decide +kernel) (by decide +kernel)
set_option maxRecDepth 20000 in
theorem qw_880 : Cond.instanceMethod yX11_tellRoom ∈ GA := ga_t 880 (by decide +kernel) (by decide +kernel)
set_option maxRecDepth 20000 in
theorem qw_881 : Cond.code yX11_tellRoom cX11_tellRoom 2 (some .int) ∈ GA := ga_t 881 (by decide +kernel) (by decide +kernel)
set_option maxRecDepth 20000 in
theorem qw_882 : Cond.methodLink RX11 597 yX11_countUp ∈ GA := ga_t 882 (by decide +kernel) (by decide +kernel)
set_option maxRecDepth 20000 in
theorem qw_884 : Cond.instanceMethod yX11_countUp ∈ GA := ga_t 884 (by decide +kernel) (by decide +kernel)
set_option maxRecDepth 20000 in
theorem qw_885 : Cond.code yX11_countUp cX11_countUp 5 (some .int) ∈ GA := ga_t 885 (by decide +kernel) (by decide +kernel)
set_option maxRecDepth 20000 in
theorem qw_886 : Cond.methodLink RX11 601 yX11_countFoeMachines ∈ GA := ga_t 886 (by decide +kernel) (by decide +kernel)
set_option maxRecDepth 20000 in
theorem qw_888 : Cond.instanceMethod yX11_countFoeMachines ∈ GA := ga_t 888 (by decide +kernel) (by decide +kernel)
set_option maxRecDepth 20000 in
theorem qw_889 : Cond.code yX11_countFoeMachines cX11_countFoeMachines 4 (some .int) ∈ GA := ga_t 889 (by decide +kernel) (by decide +kernel)
set_option maxRecDepth 20000 in
theorem qw_890 : Cond.methodLink RX11 604 yX11_countLive ∈ GA := ga_t 890 (by decide +kernel) (by decide +kernel)
set_option maxRecDepth 20000 in
theorem qw_892 : Cond.instanceMethod yX11_countLive ∈ GA := ga_t 892 (by decide +kernel) (by decide +kernel)
set_option maxRecDepth 20000 in
theorem qw_893 : Cond.code yX11_countLive cX11_countLive 3 (some .int) ∈ GA := ga_t 893 (by decide +kernel) (by decide +kernel)
set_option maxRecDepth 20000 in
theorem qw_894 : Cond.methodLink RX11 607 yX11_countLiveOfKind ∈ GA := ga_t 894 (by decide +kernel) (by decide +kernel)
set_option maxRecDepth 20000 in
theorem qw_896 : Cond.instanceMethod yX11_countLiveOfKind ∈ GA := ga_t 896 (by decide +kernel) (by decide +kernel)
set_option maxRecDepth 20000 in
theorem qw_897 : Cond.code yX11_countLiveOfKind cX11_countLiveOfKind 5 (some .int) ∈ GA := ga_t 897 (by decide +kernel) (by decide +kernel)
set_option maxRecDepth 20000 in
theorem qw_898 : Cond.methodLink RX11 610 yX11_countInAir ∈ GA := ga_t 898 (by decide +kernel) (by decide +kernel)
set_option maxRecDepth 20000 in
theorem qw_900 : Cond.instanceMethod yX11_countInAir ∈ GA := ga_t 900 (by decide +kernel) (by decide +kernel)
set_option maxRecDepth 20000 in
theorem qw_901 : Cond.code yX11_countInAir cX11_countInAir 3 (some .int) ∈ GA := ga_t 901 (by decide +kernel) (by decide +kernel)
set_option maxRecDepth 20000 in
theorem qw_902 : Cond.methodLink RX11 200 yX11_countTalks ∈ GA := ga_t 902 (by decide +kernel) (by decide +kernel)
set_option maxRecDepth 20000 in
theorem qw_904 : Cond.instanceMethod yX11_countTalks ∈ GA := ga_t 904 (by decide +kernel) (by decide +kernel)
set_option maxRecDepth 20000 in
theorem qw_905 : Cond.code yX11_countTalks cX11_countTalks 3 (some .int) ∈ GA := ga_t 905 (by decide +kernel) (by decide +kernel)
set_option maxRecDepth 20000 in
theorem qw_906 : Cond.methodLink RX11 218 yX7_isTalkedTo ∈ GA := ga_t 906 (by decide +kernel) (by decide +kernel)
set_option maxRecDepth 20000 in
theorem qw_907 : Cond.instanceMethod yX7_isTalkedTo ∈ GA := ga_t 907 (by decide +kernel) (by decide +kernel)
set_option maxRecDepth 20000 in
theorem qw_908 : Cond.selects RX7 yX7_isTalkedTo yX7_isTalkedTo ∈ GA := ga_t 908 (by decide +kernel) (by decide +kernel)
set_option maxRecDepth 20000 in
theorem qw_909 : Cond.code yX7_isTalkedTo cX7_isTalkedTo 1 (some .boolean) ∈ GA := ga_t 909 (by decide +kernel) (by decide +kernel)
set_option maxRecDepth 20000 in
theorem qw_910 : Cond.methodLink RX11 370 yX11_countWon ∈ GA := ga_t 910 (by decide +kernel) (by decide +kernel)
set_option maxRecDepth 20000 in
theorem qw_912 : Cond.instanceMethod yX11_countWon ∈ GA := ga_t 912 (by decide +kernel) (by decide +kernel)
set_option maxRecDepth 20000 in
theorem qw_913 : Cond.code yX11_countWon cX11_countWon 3 (some .int) ∈ GA := ga_t 913 (by decide +kernel) (by decide +kernel)
set_option maxRecDepth 20000 in
theorem qw_914 : Cond.methodLink RL 66 yX11_seen ∈ GA := ga_t 914 (by decide +kernel) (by decide +kernel)
set_option maxRecDepth 20000 in
theorem qw_915 : Cond.instanceMethod yX11_seen ∈ GA := ga_t 915 (by decide +kernel) (by decide +kernel)
set_option maxRecDepth 20000 in
theorem qw_916 : Cond.selects RX11 yX11_seen yX11_seen ∈ GA := ga_t 916 (by decide +kernel) (by decide +kernel)
set_option maxRecDepth 20000 in
theorem qw_917 : Cond.code yX11_seen cX11_seen 1 (some .double) ∈ GA := ga_t 917 (by decide +kernel) (by decide +kernel)
set_option maxRecDepth 20000 in
theorem qw_918 : Cond.methodLink RX11 336 yX11_partSeen ∈ GA := ga_t 918 (by decide +kernel) (by decide +kernel)
set_option maxRecDepth 20000 in
theorem qw_920 : Cond.instanceMethod yX11_partSeen ∈ GA := ga_t 920 (by decide +kernel) (by decide +kernel)
set_option maxRecDepth 20000 in
theorem qw_921 : Cond.code yX11_partSeen cX11_partSeen 5 (some .double) ∈ GA := ga_t 921 (by decide +kernel) (by decide +kernel)
set_option maxRecDepth 20000 in
theorem qw_922 : Cond.methodLink RX11 623 yX11_isOnTable ∈ GA := ga_t 922 (by decide +kernel) (by decide +kernel)
set_option maxRecDepth 20000 in
theorem qw_924 : Cond.instanceMethod yX11_isOnTable ∈ GA := ga_t 924 (by decide +kernel) (by decide +kernel)
set_option maxRecDepth 20000 in
theorem qw_925 : Cond.code yX11_isOnTable cX11_isOnTable 4 (some .boolean) ∈ GA := ga_t 925 (by decide +kernel) (by decide +kernel)
set_option maxRecDepth 20000 in
theorem qw_926 : Cond.methodLink RL 70 yX11_best ∈ GA := ga_t 926 (by decide +kernel) (by decide +kernel)
set_option maxRecDepth 20000 in
theorem qw_927 : Cond.instanceMethod yX11_best ∈ GA := ga_t 927 (by decide +kernel) (by decide +kernel)
set_option maxRecDepth 20000 in
theorem qw_928 : Cond.selects RX11 yX11_best yX11_best ∈ GA := ga_t 928 (by decide +kernel) (by decide +kernel)
set_option maxRecDepth 20000 in
theorem qw_929 : Cond.code yX11_best cX11_best 2 (some .int) ∈ GA := ga_t 929 (by decide +kernel) (by decide +kernel)
set_option maxRecDepth 20000 in
theorem qw_931 : Cond.methodLink RX11 346 yX11_soonestSquadron ∈ GA := ga_t 931 (by decide +kernel) (by decide +kernel)
set_option maxRecDepth 20000 in
theorem qw_933 : Cond.instanceMethod yX11_soonestSquadron ∈ GA := ga_t 933 (by decide +kernel) (by decide +kernel)
set_option maxRecDepth 20000 in
theorem qw_934 : Cond.code yX11_soonestSquadron cX11_soonestSquadron 9 (some .int) ∈ GA := ga_t 934 (by decide +kernel) (by decide +kernel)
set_option maxRecDepth 20000 in
theorem qw_935 : Cond.methodLink RX11 193 yX7_canStart ∈ GA := ga_t 935 (by decide +kernel) (by decide +kernel)
set_option maxRecDepth 20000 in
theorem qw_936 : Cond.instanceMethod yX7_canStart ∈ GA := ga_t 936 (by decide +kernel) (by decide +kernel)
set_option maxRecDepth 20000 in
theorem qw_937 : Cond.selects RX7 yX7_canStart yX7_canStart ∈ GA := ga_t 937 (by decide +kernel) (by decide +kernel)
set_option maxRecDepth 20000 in
theorem qw_938 : Cond.code yX7_canStart cX7_canStart 1 (some .boolean) ∈ GA := ga_t 938 (by decide +kernel) (by decide +kernel)
set_option maxRecDepth 20000 in
theorem qw_939 : Cond.methodLink RX11 343 yX7_minutesToMeet ∈ GA := ga_t 939 (by decide +kernel) (by decide +kernel)
set_option maxRecDepth 20000 in
theorem qw_940 : Cond.instanceMethod yX7_minutesToMeet ∈ GA := ga_t 940 (by decide +kernel) (by decide +kernel)
set_option maxRecDepth 20000 in
theorem qw_941 : Cond.selects RX7 yX7_minutesToMeet yX7_minutesToMeet ∈ GA := ga_t 941 (by decide +kernel) (by decide +kernel)
set_option maxRecDepth 20000 in
theorem qw_942 : Cond.code yX7_minutesToMeet cX7_minutesToMeet 4 (some .int) ∈ GA := ga_t 942 (by decide +kernel) (by decide +kernel)
set_option maxRecDepth 20000 in
theorem qw_943 : Cond.methodLink RX7 69 yX10_xAt ∈ GA := ga_t 943 (by decide +kernel) (by decide +kernel)
set_option maxRecDepth 20000 in
theorem qw_944 : Cond.methodLink RX7 72 yX10_yAt ∈ GA := ga_t 944 (by decide +kernel) (by decide +kernel)
set_option maxRecDepth 20000 in
theorem qw_945 : Cond.methodLink RL 73 yX11_wouldSound ∈ GA := ga_t 945 (by decide +kernel) (by decide +kernel)
set_option maxRecDepth 20000 in
theorem qw_946 : Cond.instanceMethod yX11_wouldSound ∈ GA := ga_t 946 (by decide +kernel) (by decide +kernel)
set_option maxRecDepth 20000 in
theorem qw_947 : Cond.selects RX11 yX11_wouldSound yX11_wouldSound ∈ GA := ga_t 947 (by decide +kernel) (by decide +kernel)
set_option maxRecDepth 20000 in
theorem qw_948 : Cond.code yX11_wouldSound cX11_wouldSound 2 (some .int) ∈ GA := ga_t 948 (by decide +kernel) (by decide +kernel)
set_option maxRecDepth 20000 in
theorem qw_950 : Cond.methodLink RX11 357 yX11_minutesToSiren ∈ GA := ga_t 950 (by decide +kernel) (by decide +kernel)
set_option maxRecDepth 20000 in
theorem qw_952 : Cond.instanceMethod yX11_minutesToSiren ∈ GA := ga_t 952 (by decide +kernel) (by decide +kernel)
set_option maxRecDepth 20000 in
theorem qw_953 : Cond.code yX11_minutesToSiren cX11_minutesToSiren 3 (some .int) ∈ GA := ga_t 953 (by decide +kernel) (by decide +kernel)
set_option maxRecDepth 20000 in
theorem qw_954 : Cond.methodLink RX11 586 yJ9_max_7cf53 ∈ GA := ga_t 954 (by decide +kernel) (by decide +kernel)
set_option maxRecDepth 20000 in
theorem qw_955 : Cond.methodLink RL 80 yX11_isSound ∈ GA := ga_t 955 (by decide +kernel) (by decide +kernel)
set_option maxRecDepth 20000 in
theorem qw_956 : Cond.instanceMethod yX11_isSound ∈ GA := ga_t 956 (by decide +kernel) (by decide +kernel)
set_option maxRecDepth 20000 in
theorem qw_957 : Cond.selects RX11 yX11_isSound yX11_isSound ∈ GA := ga_t 957 (by decide +kernel) (by decide +kernel)
set_option maxRecDepth 20000 in
theorem qw_958 : Cond.code yX11_isSound cX11_isSound 1 (some .boolean) ∈ GA := ga_t 958 (by decide +kernel) (by decide +kernel)
set_option maxRecDepth 20000 in
theorem qw_959 : Cond.methodLink RX11 361 yX11_areSquadronsSound ∈ GA := ga_t 959 (by decide +kernel) (by decide +kernel)
set_option maxRecDepth 20000 in
theorem qw_961 : Cond.instanceMethod yX11_areSquadronsSound ∈ GA := ga_t 961 (by decide +kernel) (by decide +kernel)
set_option maxRecDepth 20000 in
theorem qw_962 : Cond.code yX11_areSquadronsSound cX11_areSquadronsSound 3 (some .boolean) ∈ GA := ga_t 962 (by decide +kernel) (by decide +kernel)
set_option maxRecDepth 20000 in
theorem qw_963 : Cond.methodLink RX11 364 yX11_arePlotsSound ∈ GA := ga_t 963 (by decide +kernel) (by decide +kernel)
set_option maxRecDepth 20000 in
theorem qw_965 : Cond.instanceMethod yX11_arePlotsSound ∈ GA := ga_t 965 (by decide +kernel) (by decide +kernel)
set_option maxRecDepth 20000 in
theorem qw_966 : Cond.code yX11_arePlotsSound cX11_arePlotsSound 6 (some .boolean) ∈ GA := ga_t 966 (by decide +kernel) (by decide +kernel)
set_option maxRecDepth 20000 in
theorem qw_967 : Cond.methodLink RX11 373 yX11_arePlacesSound ∈ GA := ga_t 967 (by decide +kernel) (by decide +kernel)
set_option maxRecDepth 20000 in
theorem qw_969 : Cond.instanceMethod yX11_arePlacesSound ∈ GA := ga_t 969 (by decide +kernel) (by decide +kernel)
set_option maxRecDepth 20000 in
theorem qw_970 : Cond.code yX11_arePlacesSound cX11_arePlacesSound 2 (some .boolean) ∈ GA := ga_t 970 (by decide +kernel) (by decide +kernel)
set_option maxRecDepth 20000 in
theorem qw_971 : Cond.methodLink RX11 629 ⟨"Plotroom$Flight", "isOnMap", "()Z"⟩ ∈ GA := ga_t 971 (by decide +kernel) (by decide +kernel)
set_option maxRecDepth 20000 in
theorem qw_972 : Cond.sameMethod RX0 "Plotroom$Place" "isOnMap" "()Z" ∈ GA := ga_t 972 (by decide +kernel) (by decide +kernel)
set_option maxRecDepth 20000 in
theorem qw_974 : Cond.selects RX0 ⟨"Plotroom$Flight", "isOnMap", "()Z"⟩ yX4_isOnMap ∈ GA := ga_t 974 (by decide +kernel) (by decide +kernel)
set_option maxRecDepth 20000 in
theorem qw_975 : Cond.instanceMethod yX4_isOnMap ∈ GA := ga_t 975 (by decide +kernel) (by decide +kernel)
set_option maxRecDepth 20000 in
theorem qw_976 : Cond.code yX4_isOnMap cX4_isOnMap 1 (some .boolean) ∈ GA := ga_t 976 (by decide +kernel) (by decide +kernel)
set_option maxRecDepth 20000 in
theorem qw_978 : Cond.methodLink RX11 632 ⟨"Plotroom$Track", "isOnMap", "()Z"⟩ ∈ GA := ga_t 978 (by decide +kernel) (by decide +kernel)
set_option maxRecDepth 20000 in
theorem qw_979 : Cond.sameMethod RX10 "Plotroom$Place" "isOnMap" "()Z" ∈ GA := ga_t 979 (by decide +kernel) (by decide +kernel)
set_option maxRecDepth 20000 in
theorem qw_980 : Cond.selects RX10 ⟨"Plotroom$Track", "isOnMap", "()Z"⟩ yX4_isOnMap ∈ GA := ga_t 980 (by decide +kernel) (by decide +kernel)
set_option maxRecDepth 20000 in
theorem qw_981 : Cond.methodLink RX11 633 ⟨"Plotroom$Squadron", "isOnMap", "()Z"⟩ ∈ GA := ga_t 981 (by decide +kernel) (by decide +kernel)
set_option maxRecDepth 20000 in
theorem qw_982 : Cond.sameMethod RX7 "Plotroom$Place" "isOnMap" "()Z" ∈ GA := ga_t 982 (by decide +kernel) (by decide +kernel)
set_option maxRecDepth 20000 in
theorem qw_983 : Cond.selects RX7 ⟨"Plotroom$Squadron", "isOnMap", "()Z"⟩ yX4_isOnMap ∈ GA := ga_t 983 (by decide +kernel) (by decide +kernel)
set_option maxRecDepth 20000 in
theorem qw_984 : Cond.methodLink RL 62 yX11_digest ∈ GA := ga_t 984 (by decide +kernel) (by decide +kernel)
set_option maxRecDepth 20000 in
theorem qw_985 : Cond.instanceMethod yX11_digest ∈ GA := ga_t 985 (by decide +kernel) (by decide +kernel)
set_option maxRecDepth 20000 in
theorem qw_986 : Cond.selects RX11 yX11_digest yX11_digest ∈ GA := ga_t 986 (by decide +kernel) (by decide +kernel)
set_option maxRecDepth 20000 in
theorem qw_987 : Cond.code yX11_digest cX11_digest 5 (some .long) ∈ GA := ga_t 987 (by decide +kernel) (by decide +kernel)
set_option maxRecDepth 20000 in
theorem qw_988 : Cond.constantLong RX11 376 (7001) ∈ GA := ga_t 988 (by decide +kernel) (by decide +kernel)
set_option maxRecDepth 20000 in
theorem qw_989 : Cond.constantLong RX11 378 (31) ∈ GA := ga_t 989 (by decide +kernel) (by decide +kernel)
set_option maxRecDepth 20000 in
theorem qw_990 : Cond.methodLink RX11 380 yX11_digestSky ∈ GA := ga_t 990 (by decide +kernel) (by decide +kernel)
set_option maxRecDepth 20000 in
theorem qw_992 : Cond.instanceMethod yX11_digestSky ∈ GA := ga_t 992 (by decide +kernel) (by decide +kernel)
set_option maxRecDepth 20000 in
theorem qw_993 : Cond.code yX11_digestSky cX11_digestSky 7 (some .long) ∈ GA := ga_t 993 (by decide +kernel) (by decide +kernel)
set_option maxRecDepth 20000 in
theorem qw_994 : Cond.methodLink RX11 268 yX0_tell ∈ GA := ga_t 994 (by decide +kernel) (by decide +kernel)
set_option maxRecDepth 20000 in
theorem qw_995 : Cond.instanceMethod yX0_tell ∈ GA := ga_t 995 (by decide +kernel) (by decide +kernel)
set_option maxRecDepth 20000 in
theorem qw_996 : Cond.selects RX0 yX0_tell yX0_tell ∈ GA := ga_t 996 (by decide +kernel) (by decide +kernel)
set_option maxRecDepth 20000 in
theorem qw_997 : Cond.code yX0_tell cX0_tell 2 (some .int) ∈ GA := ga_t 997 (by decide +kernel) (by decide +kernel)
set_option maxRecDepth 20000 in
theorem qw_998 : Cond.methodLink RX11 280 yX3_tell ∈ GA := ga_t 998 (by decide +kernel) (by decide +kernel)
set_option maxRecDepth 20000 in
theorem qw_999 : Cond.instanceMethod yX3_tell ∈ GA := ga_t 999 (by decide +kernel) (by decide +kernel)
set_option maxRecDepth 20000 in
theorem qw_1000 : Cond.selects RX3 yX3_tell yX3_tell ∈ GA := ga_t 1000 (by decide +kernel) (by decide +kernel)
set_option maxRecDepth 20000 in
theorem qw_1001 : Cond.code yX3_tell cX3_tell 2 (some .int) ∈ GA := ga_t 1001 (by decide +kernel) (by decide +kernel)
set_option maxRecDepth 20000 in
theorem qw_1002 : Cond.methodLink RX11 384 yX11_digestTracks ∈ GA := ga_t 1002 (by decide +kernel) (by decide +kernel)
set_option maxRecDepth 20000 in
theorem qw_1004 : Cond.instanceMethod yX11_digestTracks ∈ GA := ga_t 1004 (by decide +kernel) (by decide +kernel)
set_option maxRecDepth 20000 in
theorem qw_1005 : Cond.code yX11_digestTracks cX11_digestTracks 7 (some .long) ∈ GA := ga_t 1005 (by decide +kernel) (by decide +kernel)
set_option maxRecDepth 20000 in
theorem qw_1006 : Cond.methodLink RX11 293 yX11_tellTrack ∈ GA := ga_t 1006 (by decide +kernel) (by decide +kernel)
set_option maxRecDepth 20000 in
theorem qw_1008 : Cond.instanceMethod yX11_tellTrack ∈ GA := ga_t 1008 (by decide +kernel) (by decide +kernel)
set_option maxRecDepth 20000 in
theorem qw_1009 : Cond.code yX11_tellTrack cX11_tellTrack 3 (some .int) ∈ GA := ga_t 1009 (by decide +kernel) (by decide +kernel)
set_option maxRecDepth 20000 in
theorem qw_1010 : Cond.methodLink RX11 616 yX11_countSentTo ∈ GA := ga_t 1010 (by decide +kernel) (by decide +kernel)
set_option maxRecDepth 20000 in
theorem qw_1012 : Cond.instanceMethod yX11_countSentTo ∈ GA := ga_t 1012 (by decide +kernel) (by decide +kernel)
set_option maxRecDepth 20000 in
theorem qw_1013 : Cond.code yX11_countSentTo cX11_countSentTo 5 (some .int) ∈ GA := ga_t 1013 (by decide +kernel) (by decide +kernel)
set_option maxRecDepth 20000 in
theorem qw_1014 : Cond.methodLink RX11 223 yX7_targetNumber ∈ GA := ga_t 1014 (by decide +kernel) (by decide +kernel)
set_option maxRecDepth 20000 in
theorem qw_1015 : Cond.methodLink RX11 619 yX10_tell ∈ GA := ga_t 1015 (by decide +kernel) (by decide +kernel)
set_option maxRecDepth 20000 in
theorem qw_1016 : Cond.instanceMethod yX10_tell ∈ GA := ga_t 1016 (by decide +kernel) (by decide +kernel)
set_option maxRecDepth 20000 in
theorem qw_1017 : Cond.selects RX10 yX10_tell yX10_tell ∈ GA := ga_t 1017 (by decide +kernel) (by decide +kernel)
set_option maxRecDepth 20000 in
theorem qw_1018 : Cond.code yX10_tell cX10_tell 2 (some .int) ∈ GA := ga_t 1018 (by decide +kernel) (by decide +kernel)
set_option maxRecDepth 20000 in
theorem qw_1019 : Cond.methodLink RX11 306 yX11_flightBehind ∈ GA := ga_t 1019 (by decide +kernel) (by decide +kernel)
set_option maxRecDepth 20000 in
theorem qw_1021 : Cond.instanceMethod yX11_flightBehind ∈ GA := ga_t 1021 (by decide +kernel) (by decide +kernel)
set_option maxRecDepth 20000 in
theorem qw_1022 : Cond.code yX11_flightBehind cX11_flightBehind 7 (some .int) ∈ GA := ga_t 1022 (by decide +kernel) (by decide +kernel)
set_option maxRecDepth 20000 in
theorem qw_1023 : Cond.constantDouble RX11 387 (4634204016564240384) ∈ GA := ga_t 1023 (by decide +kernel) (by decide +kernel)
set_option maxRecDepth 20000 in
theorem qw_1024 : Cond.methodLink RX11 389 yX11_isSound ∈ GA := ga_t 1024 (by decide +kernel) (by decide +kernel)
set_option maxRecDepth 20000 in
theorem qw_1025 : Cond.methodLink RL 18 yL_below ∈ GA := ga_t 1025 (by decide +kernel) (by decide +kernel)
set_option maxRecDepth 20000 in
theorem qw_1026 : Cond.static yL_below ∈ GA := ga_t 1026 (by decide +kernel) (by decide +kernel)
set_option maxRecDepth 20000 in
theorem qw_1027 : Cond.code yL_below cL_below 2 (some .int) ∈ GA := ga_t 1027 (by decide +kernel) (by decide +kernel)
set_option maxRecDepth 20000 in
theorem qw_1028 : Cond.constant RL 7 (2147483647) ∈ GA := ga_t 1028 (by decide +kernel) (by decide +kernel)
set_option maxRecDepth 20000 in
theorem qw_1029 : Cond.methodLink RL 12 yL_cell ∈ GA := ga_t 1029 (by decide +kernel) (by decide +kernel)
set_option maxRecDepth 20000 in
theorem qw_1030 : Cond.static yL_cell ∈ GA := ga_t 1030 (by decide +kernel) (by decide +kernel)
set_option maxRecDepth 20000 in
theorem qw_1031 : Cond.code yL_cell cL_cell 2 (some .int) ∈ GA := ga_t 1031 (by decide +kernel) (by decide +kernel)
set_option maxRecDepth 20000 in
theorem qw_1032 : Cond.constant RL 8 (790386105) ∈ GA := ga_t 1032 (by decide +kernel) (by decide +kernel)
set_option maxRecDepth 20000 in
theorem qw_1033 : Cond.methodLink RL 47 yL_acted ∈ GA := ga_t 1033 (by decide +kernel) (by decide +kernel)
set_option maxRecDepth 20000 in
theorem qw_1034 : Cond.static yL_acted ∈ GA := ga_t 1034 (by decide +kernel) (by decide +kernel)
set_option maxRecDepth 20000 in
theorem qw_1035 : Cond.codeWith yL_acted cL_acted 8 (some .int) [(23, 110, 113, 96)] ∈ GA := ga_t 1035 (by decide +kernel) (by decide +kernel)
set_option maxRecDepth 20000 in
theorem qw_1036 : Cond.classLink RL 96 "java/lang/IllegalStateException" ∈ GA := ga_t 1036 (by decide +kernel) (by decide +kernel)
set_option maxRecDepth 20000 in
theorem qw_1037 : Cond.methodLink RL 84 yX11_scramble ∈ GA := ga_t 1037 (by decide +kernel) (by decide +kernel)
set_option maxRecDepth 20000 in
theorem qw_1038 : Cond.instanceMethod yX11_scramble ∈ GA := ga_t 1038 (by decide +kernel) (by decide +kernel)
set_option maxRecDepth 20000 in
theorem qw_1039 : Cond.selects RX11 yX11_scramble yX11_scramble ∈ GA := ga_t 1039 (by decide +kernel) (by decide +kernel)
set_option maxRecDepth 20000 in
theorem qw_1040 : Cond.code yX11_scramble cX11_scramble 5 (some .int) ∈ GA := ga_t 1040 (by decide +kernel) (by decide +kernel)
set_option maxRecDepth 20000 in
theorem qw_1043 : Cond.methodLink RX11 211 yX7_order ∈ GA := ga_t 1043 (by decide +kernel) (by decide +kernel)
set_option maxRecDepth 20000 in
theorem qw_1044 : Cond.instanceMethod yX7_order ∈ GA := ga_t 1044 (by decide +kernel) (by decide +kernel)
set_option maxRecDepth 20000 in
theorem qw_1045 : Cond.selects RX7 yX7_order yX7_order ∈ GA := ga_t 1045 (by decide +kernel) (by decide +kernel)
set_option maxRecDepth 20000 in
theorem qw_1046 : Cond.code yX7_order cX7_order 3 none ∈ GA := ga_t 1046 (by decide +kernel) (by decide +kernel)
set_option maxRecDepth 20000 in
theorem qw_1047 : Cond.methodLink RL 87 yX11_lead ∈ GA := ga_t 1047 (by decide +kernel) (by decide +kernel)
set_option maxRecDepth 20000 in
theorem qw_1048 : Cond.instanceMethod yX11_lead ∈ GA := ga_t 1048 (by decide +kernel) (by decide +kernel)
set_option maxRecDepth 20000 in
theorem qw_1049 : Cond.selects RX11 yX11_lead yX11_lead ∈ GA := ga_t 1049 (by decide +kernel) (by decide +kernel)
set_option maxRecDepth 20000 in
theorem qw_1050 : Cond.code yX11_lead cX11_lead 6 (some .int) ∈ GA := ga_t 1050 (by decide +kernel) (by decide +kernel)
set_option maxRecDepth 20000 in
theorem qw_1052 : Cond.methodLink RL 90 yX11_back ∈ GA := ga_t 1052 (by decide +kernel) (by decide +kernel)
set_option maxRecDepth 20000 in
theorem qw_1053 : Cond.instanceMethod yX11_back ∈ GA := ga_t 1053 (by decide +kernel) (by decide +kernel)
set_option maxRecDepth 20000 in
theorem qw_1054 : Cond.selects RX11 yX11_back yX11_back ∈ GA := ga_t 1054 (by decide +kernel) (by decide +kernel)
set_option maxRecDepth 20000 in
theorem qw_1055 : Cond.code yX11_back cX11_back 3 (some .int) ∈ GA := ga_t 1055 (by decide +kernel) (by decide +kernel)
set_option maxRecDepth 20000 in
theorem qw_1057 : Cond.methodLink RL 93 yX11_reinforce ∈ GA := ga_t 1057 (by decide +kernel) (by decide +kernel)
set_option maxRecDepth 20000 in
theorem qw_1058 : Cond.instanceMethod yX11_reinforce ∈ GA := ga_t 1058 (by decide +kernel) (by decide +kernel)
set_option maxRecDepth 20000 in
theorem qw_1059 : Cond.selects RX11 yX11_reinforce yX11_reinforce ∈ GA := ga_t 1059 (by decide +kernel) (by decide +kernel)
set_option maxRecDepth 20000 in
theorem qw_1060 : Cond.code yX11_reinforce cX11_reinforce 4 (some .int) ∈ GA := ga_t 1060 (by decide +kernel) (by decide +kernel)
set_option maxRecDepth 20000 in
theorem qw_1063 : Cond.methodLink RL 58 yL_isWell ∈ GA := ga_t 1063 (by decide +kernel) (by decide +kernel)
set_option maxRecDepth 20000 in
theorem qw_1064 : Cond.static yL_isWell ∈ GA := ga_t 1064 (by decide +kernel) (by decide +kernel)
set_option maxRecDepth 20000 in
theorem qw_1065 : Cond.code yL_isWell cL_isWell 12 (some .boolean) ∈ GA := ga_t 1065 (by decide +kernel) (by decide +kernel)
set_option maxRecDepth 20000 in
theorem qw_1066 : Cond.methodLink RL 98 yX11_ofMast ∈ GA := ga_t 1066 (by decide +kernel) (by decide +kernel)
set_option maxRecDepth 20000 in
theorem qw_1067 : Cond.instanceMethod yX11_ofMast ∈ GA := ga_t 1067 (by decide +kernel) (by decide +kernel)
set_option maxRecDepth 20000 in
theorem qw_1068 : Cond.selects RX11 yX11_ofMast yX11_ofMast ∈ GA := ga_t 1068 (by decide +kernel) (by decide +kernel)
set_option maxRecDepth 20000 in
theorem qw_1069 : Cond.code yX11_ofMast cX11_ofMast 3 (some .int) ∈ GA := ga_t 1069 (by decide +kernel) (by decide +kernel)
set_option maxRecDepth 20000 in
theorem qw_1072 : Cond.methodLink RL 101 yX11_ofTrack ∈ GA := ga_t 1072 (by decide +kernel) (by decide +kernel)
set_option maxRecDepth 20000 in
theorem qw_1073 : Cond.instanceMethod yX11_ofTrack ∈ GA := ga_t 1073 (by decide +kernel) (by decide +kernel)
set_option maxRecDepth 20000 in
theorem qw_1074 : Cond.selects RX11 yX11_ofTrack yX11_ofTrack ∈ GA := ga_t 1074 (by decide +kernel) (by decide +kernel)
set_option maxRecDepth 20000 in
theorem qw_1075 : Cond.code yX11_ofTrack cX11_ofTrack 3 (some .int) ∈ GA := ga_t 1075 (by decide +kernel) (by decide +kernel)
set_option maxRecDepth 20000 in
theorem qw_1077 : Cond.methodLink RL 104 yX11_ofFlight ∈ GA := ga_t 1077 (by decide +kernel) (by decide +kernel)
set_option maxRecDepth 20000 in
theorem qw_1078 : Cond.instanceMethod yX11_ofFlight ∈ GA := ga_t 1078 (by decide +kernel) (by decide +kernel)
set_option maxRecDepth 20000 in
theorem qw_1079 : Cond.selects RX11 yX11_ofFlight yX11_ofFlight ∈ GA := ga_t 1079 (by decide +kernel) (by decide +kernel)
set_option maxRecDepth 20000 in
theorem qw_1080 : Cond.code yX11_ofFlight cX11_ofFlight 3 (some .int) ∈ GA := ga_t 1080 (by decide +kernel) (by decide +kernel)
set_option maxRecDepth 20000 in
theorem qw_1083 : Cond.sameMethod "java/lang/Throwable" "java/lang/Throwable" "fillInStackTrace" "(I)Ljava/lang/Throwable;" ∈ GA := ga_t 1083 (by decide +kernel) (by decide +kernel)
set_option maxRecDepth 20000 in
theorem qw_1108 : Cond.sameMethod "[Ljava/lang/Object;" "java/lang/Object" "getClass" "()Ljava/lang/Class;" ∈ GA := ga_t 1108 (by decide +kernel) (by decide +kernel)
set_option maxRecDepth 20000 in
theorem qw_1109 : Cond.selects "[Ljava/lang/Object;" ⟨"java/lang/Object", "getClass", "()Ljava/lang/Class;"⟩ ⟨"java/lang/Object", "getClass", "()Ljava/lang/Class;"⟩ ∈ GA := ga_t 1109 (by decide +kernel) (by decide +kernel)
set_option maxRecDepth 20000 in
theorem qw_1113 : Cond.fieldLink RX5 7 "Plotroom$Plan" "from" "I" ∈ GA := ga_t 1113 (by decide +kernel) (by decide +kernel)
set_option maxRecDepth 20000 in
theorem qw_1114 : Cond.fieldLink RX5 13 "Plotroom$Plan" "to" "I" ∈ GA := ga_t 1114 (by decide +kernel) (by decide +kernel)
set_option maxRecDepth 20000 in
theorem qw_1115 : Cond.fieldLink RX5 16 "Plotroom$Plan" "radius" "I" ∈ GA := ga_t 1115 (by decide +kernel) (by decide +kernel)
theorem qs_0 : Cond.selects "java/lang/Throwable" ⟨"java/lang/Throwable", "fillInStackTrace", "(I)Ljava/lang/Throwable;"⟩ ⟨"java/lang/Throwable", "fillInStackTrace", "(I)Ljava/lang/Throwable;"⟩ ∈ GA := ga_s 0 (by decide +kernel) (by decide +kernel)
theorem qs_1 : Cond.selects RJx4a65c yJx4a65c_add_72be8 yJx4a65c_add_72be8 ∈ GA := ga_s 1 (by decide +kernel) (by decide +kernel)
theorem qs_2 : Cond.selects RJx4a65c yJx4a65c_grow_d5877 yJx4a65c_grow_d5877 ∈ GA := ga_s 2 (by decide +kernel) (by decide +kernel)
theorem qs_3 : Cond.selects RJx4a65c yJx4a65c_grow_92f84 yJx4a65c_grow_92f84 ∈ GA := ga_s 3 (by decide +kernel) (by decide +kernel)
theorem qs_4 : Cond.selects RX11 yX11_passOne yX11_passOne ∈ GA := ga_s 4 (by decide +kernel) (by decide +kernel)
theorem qs_5 : Cond.selects RX11 yX11_makePlots yX11_makePlots ∈ GA := ga_s 5 (by decide +kernel) (by decide +kernel)
theorem qs_6 : Cond.selects RX11 yX11_makePlot yX11_makePlot ∈ GA := ga_s 6 (by decide +kernel) (by decide +kernel)
theorem qs_7 : Cond.selects RX11 yX11_bringPlots yX11_bringPlots ∈ GA := ga_s 7 (by decide +kernel) (by decide +kernel)
theorem qs_8 : Cond.selects RX11 yX11_bringPlot yX11_bringPlot ∈ GA := ga_s 8 (by decide +kernel) (by decide +kernel)
theorem qs_9 : Cond.selects RX11 yX11_trackFor yX11_trackFor ∈ GA := ga_s 9 (by decide +kernel) (by decide +kernel)
theorem qs_10 : Cond.selects RX10 yX10_courseBy yX10_courseBy ∈ GA := ga_s 10 (by decide +kernel) (by decide +kernel)
theorem qs_11 : Cond.selects RX11 yX11_takeTurn yX11_takeTurn ∈ GA := ga_s 11 (by decide +kernel) (by decide +kernel)
theorem qs_12 : Cond.selects RX11 yX11_fly yX11_fly ∈ GA := ga_s 12 (by decide +kernel) (by decide +kernel)
theorem qs_13 : Cond.selects RX11 yX11_loseMachines yX11_loseMachines ∈ GA := ga_s 13 (by decide +kernel) (by decide +kernel)
theorem qs_14 : Cond.selects RX11 yX11_fightWith yX11_fightWith ∈ GA := ga_s 14 (by decide +kernel) (by decide +kernel)
theorem qs_15 : Cond.selects RX11 yX11_foeNear yX11_foeNear ∈ GA := ga_s 15 (by decide +kernel) (by decide +kernel)
theorem qs_16 : Cond.selects RX11 yX11_fireGun yX11_fireGun ∈ GA := ga_s 16 (by decide +kernel) (by decide +kernel)
theorem qs_17 : Cond.selects RX11 yX11_isSquadronWithin yX11_isSquadronWithin ∈ GA := ga_s 17 (by decide +kernel) (by decide +kernel)
theorem qs_18 : Cond.selects RX11 yX11_loseTracks yX11_loseTracks ∈ GA := ga_s 18 (by decide +kernel) (by decide +kernel)
theorem qs_19 : Cond.selects RX11 yX11_countTown yX11_countTown ∈ GA := ga_s 19 (by decide +kernel) (by decide +kernel)
theorem qs_20 : Cond.selects RX11 yX11_minutesToThreat yX11_minutesToThreat ∈ GA := ga_s 20 (by decide +kernel) (by decide +kernel)
theorem qs_21 : Cond.selects RX11 yX11_kindOf yX11_kindOf ∈ GA := ga_s 21 (by decide +kernel) (by decide +kernel)
theorem qs_22 : Cond.selects RX11 yX11_minutesToNear yX11_minutesToNear ∈ GA := ga_s 22 (by decide +kernel) (by decide +kernel)
theorem qs_23 : Cond.selects RX11 yX11_tellRoom yX11_tellRoom ∈ GA := ga_s 23 (by decide +kernel) (by decide +kernel)
theorem qs_24 : Cond.selects RX11 yX11_countUp yX11_countUp ∈ GA := ga_s 24 (by decide +kernel) (by decide +kernel)
theorem qs_25 : Cond.selects RX11 yX11_countFoeMachines yX11_countFoeMachines ∈ GA := ga_s 25 (by decide +kernel) (by decide +kernel)
theorem qs_26 : Cond.selects RX11 yX11_countLive yX11_countLive ∈ GA := ga_s 26 (by decide +kernel) (by decide +kernel)
theorem qs_27 : Cond.selects RX11 yX11_countLiveOfKind yX11_countLiveOfKind ∈ GA := ga_s 27 (by decide +kernel) (by decide +kernel)
theorem qs_28 : Cond.selects RX11 yX11_countInAir yX11_countInAir ∈ GA := ga_s 28 (by decide +kernel) (by decide +kernel)
theorem qs_29 : Cond.selects RX11 yX11_countTalks yX11_countTalks ∈ GA := ga_s 29 (by decide +kernel) (by decide +kernel)
theorem qs_30 : Cond.selects RX11 yX11_countWon yX11_countWon ∈ GA := ga_s 30 (by decide +kernel) (by decide +kernel)
theorem qs_31 : Cond.selects RX11 yX11_partSeen yX11_partSeen ∈ GA := ga_s 31 (by decide +kernel) (by decide +kernel)
theorem qs_32 : Cond.selects RX11 yX11_isOnTable yX11_isOnTable ∈ GA := ga_s 32 (by decide +kernel) (by decide +kernel)
theorem qs_33 : Cond.selects RX11 yX11_soonestSquadron yX11_soonestSquadron ∈ GA := ga_s 33 (by decide +kernel) (by decide +kernel)
theorem qs_34 : Cond.selects RX11 yX11_minutesToSiren yX11_minutesToSiren ∈ GA := ga_s 34 (by decide +kernel) (by decide +kernel)
theorem qs_35 : Cond.selects RX11 yX11_areSquadronsSound yX11_areSquadronsSound ∈ GA := ga_s 35 (by decide +kernel) (by decide +kernel)
theorem qs_36 : Cond.selects RX11 yX11_arePlotsSound yX11_arePlotsSound ∈ GA := ga_s 36 (by decide +kernel) (by decide +kernel)
theorem qs_37 : Cond.selects RX11 yX11_arePlacesSound yX11_arePlacesSound ∈ GA := ga_s 37 (by decide +kernel) (by decide +kernel)
theorem qs_38 : Cond.selects RX11 yX11_digestSky yX11_digestSky ∈ GA := ga_s 38 (by decide +kernel) (by decide +kernel)
theorem qs_39 : Cond.selects RX11 yX11_digestTracks yX11_digestTracks ∈ GA := ga_s 39 (by decide +kernel) (by decide +kernel)
theorem qs_40 : Cond.selects RX11 yX11_tellTrack yX11_tellTrack ∈ GA := ga_s 40 (by decide +kernel) (by decide +kernel)
theorem qs_41 : Cond.selects RX11 yX11_countSentTo yX11_countSentTo ∈ GA := ga_s 41 (by decide +kernel) (by decide +kernel)
theorem qs_42 : Cond.selects RX11 yX11_flightBehind yX11_flightBehind ∈ GA := ga_s 42 (by decide +kernel) (by decide +kernel)
set_option maxRecDepth 20000 in
theorem inlX0 : ∀ w ∈ wsX00, w ∈ GA := ga_ws [582, 583, 570, 572, 574, 576, 578, 580] (by decide +kernel) (by decide +kernel)
set_option maxRecDepth 20000 in
theorem inlX1 : ∀ w ∈ wsX10, w ∈ GA := ga_ws [522, 523, 518, 520] (by decide +kernel) (by decide +kernel)
set_option maxRecDepth 20000 in
theorem inlX2 : ∀ w ∈ wsX20, w ∈ GA := ga_ws [70, 72] (by decide +kernel) (by decide +kernel)
set_option maxRecDepth 20000 in
theorem inlX3 : ∀ w ∈ wsX30, w ∈ GA := ga_ws [334, 336, 318, 320, 322, 324, 326, 328, 330, 332] (by decide +kernel) (by decide +kernel)
set_option maxRecDepth 20000 in
theorem inlX4 : ∀ w ∈ wsX40, w ∈ GA := ga_ws [410, 411] (by decide +kernel) (by decide +kernel)
set_option maxRecDepth 20000 in
theorem inlX6 : ∀ w ∈ wsX60, w ∈ GA := ga_ws [652, 653, 644, 646, 648, 650] (by decide +kernel) (by decide +kernel)
set_option maxRecDepth 20000 in
theorem inlX7 : ∀ w ∈ wsX70, w ∈ GA := ga_ws [500, 501, 478, 480, 482, 484, 486, 488, 490, 492, 494, 496, 498] (by decide +kernel) (by decide +kernel)
set_option maxRecDepth 20000 in
theorem inlX8 : ∀ w ∈ wsX80, w ∈ GA := ga_ws [89, 91, 93, 95, 97, 99, 101, 103] (by decide +kernel) (by decide +kernel)
set_option maxRecDepth 20000 in
theorem inlX9 : ∀ w ∈ wsX90, w ∈ GA := ga_ws [541, 542, 539] (by decide +kernel) (by decide +kernel)
set_option maxRecDepth 20000 in
theorem inlX10 : ∀ w ∈ wsX100, w ∈ GA := ga_ws [735, 736, 719, 721, 723, 725, 727, 729, 731, 733] (by decide +kernel) (by decide +kernel)
set_option maxRecDepth 20000 in
theorem inlX11 : ∀ w ∈ wsX110, w ∈ GA := ga_ws [120, 122, 124, 126, 128, 130, 132, 134, 136, 138, 140, 142, 144, 146] (by decide +kernel) (by decide +kernel)
set_option maxRecDepth 20000 in
theorem inlJx4a65c : ∀ w ∈ wsJx4a65c0, w ∈ GA := ga_ws [58, 54, 56] (by decide +kernel) (by decide +kernel)
theorem qm_max_c : Cond.code Lib.Math.max.name Lib.Math.max.code 2 (some .int) ∈ GA := ga_t 360 (by decide +kernel) (by decide +kernel)
theorem qm_min_c : Cond.code Lib.Math.min.name Lib.Math.min.code 2 (some .int) ∈ GA := ga_t 395 (by decide +kernel) (by decide +kernel)
theorem qm_max_s : Cond.static Lib.Math.max.name ∈ GA := ga_t 359 (by decide +kernel) (by decide +kernel)
theorem qm_min_s : Cond.static Lib.Math.min.name ∈ GA := ga_t 394 (by decide +kernel) (by decide +kernel)
theorem qm_i : Cond.initialized "java/lang/Math" ∈ GA := ga_t 15 (by decide +kernel) (by decide +kernel)
