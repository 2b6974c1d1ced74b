abbrev c_PL_enter : ByteArray := prog_3_method_3_code
abbrev y_PL_enter : MethodName := ⟨"TwinTuners$Plan", "enter", "(LTwinTuners$Request;)V"⟩
def w_PL_enter : List Cond := .code y_PL_enter c_PL_enter 3 none :: tb_
abbrev c_PL_make : ByteArray := prog_3_method_2_code
abbrev y_PL_make : MethodName := ⟨"TwinTuners$Plan", "make", "([LTwinTuners$Request;II)V"⟩
def w_PL_make : List Cond := .code y_PL_make c_PL_make 5 none :: tb_
abbrev c_TT_tune : ByteArray := prog_1_method_29_code
abbrev y_TT_tune : MethodName := ⟨"TwinTuners", "tune", "()I"⟩
def w_TT_tune : List Cond := .code y_TT_tune c_TT_tune 4 (some .int) :: tb_
abbrev c_TT_wipe : ByteArray := prog_1_method_36_code
abbrev y_TT_wipe : MethodName := ⟨"TwinTuners", "wipe", "(LTwinTuners$Request;)I"⟩
def w_TT_wipe : List Cond := .code y_TT_wipe c_TT_wipe 2 (some .int) :: tb_
abbrev c_TT_mayGo : ByteArray := prog_1_method_35_code
abbrev y_TT_mayGo : MethodName := ⟨"TwinTuners", "mayGo", "(LTwinTuners$Request;)Z"⟩
def w_TT_mayGo : List Cond := .code y_TT_mayGo c_TT_mayGo 2 (some .boolean) :: tb_
abbrev c_TT_makeRoom : ByteArray := prog_1_method_34_code
abbrev y_TT_makeRoom : MethodName := ⟨"TwinTuners", "makeRoom", "()V"⟩
def w_TT_makeRoom : List Cond := .code y_TT_makeRoom c_TT_makeRoom 4 none :: tb_
abbrev c_TT_slotFor : ByteArray := prog_1_method_33_code
abbrev y_TT_slotFor : MethodName := ⟨"TwinTuners", "slotFor", "(II)I"⟩
def w_TT_slotFor : List Cond := .code y_TT_slotFor c_TT_slotFor 4 (some .int) :: tb_
abbrev c_TT_recordSecond : ByteArray := prog_1_method_32_code
abbrev y_TT_recordSecond : MethodName := ⟨"TwinTuners", "recordSecond", "(LTwinTuners$Request;)Z"⟩
def w_TT_recordSecond : List Cond := .code y_TT_recordSecond c_TT_recordSecond 4 (some .boolean) :: tb_
abbrev c_TT_keepWatched : ByteArray := prog_1_method_31_code
abbrev y_TT_keepWatched : MethodName := ⟨"TwinTuners", "keepWatched", "(Z)V"⟩
def w_TT_keepWatched : List Cond := .code y_TT_keepWatched c_TT_keepWatched 2 none :: tb_
abbrev c_TT_passSecond : ByteArray := prog_1_method_30_code
abbrev y_TT_passSecond : MethodName := ⟨"TwinTuners", "passSecond", "(I)I"⟩
def w_TT_passSecond : List Cond := .code y_TT_passSecond c_TT_passSecond 4 (some .int) :: tb_
abbrev c_TT_tick : ByteArray := prog_1_method_8_code
abbrev y_TT_tick : MethodName := ⟨"TwinTuners", "tick", "()I"⟩
def w_TT_tick : List Cond := .code y_TT_tick c_TT_tick 2 (some .int) :: tb_
set_option maxRecDepth 100000 in
theorem tb_4 : (.initialized "TwinTuners$Rewind" : Cond) ∈ tb_ := tb_w 4 rfl rfl
set_option maxRecDepth 100000 in
theorem tb_75 : (.fieldLink "TwinTuners" 11 "TwinTuners" "requests" "[LTwinTuners$Request;" : Cond) ∈ tb_ := tb_w 75 rfl rfl
set_option maxRecDepth 100000 in
theorem tb_76 : (.fieldLink "TwinTuners" 15 "TwinTuners" "onAir" "[I" : Cond) ∈ tb_ := tb_w 76 rfl rfl
set_option maxRecDepth 100000 in
theorem tb_77 : (.fieldLink "TwinTuners" 22 "TwinTuners" "plan" "LTwinTuners$Plan;" : Cond) ∈ tb_ := tb_w 77 rfl rfl
set_option maxRecDepth 100000 in
theorem tb_78 : (.fieldLink "TwinTuners" 29 "TwinTuners" "disk" "LTwinTuners$Disk;" : Cond) ∈ tb_ := tb_w 78 rfl rfl
set_option maxRecDepth 100000 in
theorem tb_79 : (.fieldLink "TwinTuners" 36 "TwinTuners" "rewind" "LTwinTuners$Rewind;" : Cond) ∈ tb_ := tb_w 79 rfl rfl
set_option maxRecDepth 100000 in
theorem tb_80 : (.fieldLink "TwinTuners" 40 "TwinTuners" "count" "I" : Cond) ∈ tb_ := tb_w 80 rfl rfl
set_option maxRecDepth 100000 in
theorem tb_81 : (.fieldLink "TwinTuners" 44 "TwinTuners" "second" "I" : Cond) ∈ tb_ := tb_w 81 rfl rfl
set_option maxRecDepth 100000 in
theorem tb_82 : (.fieldLink "TwinTuners" 47 "TwinTuners" "watched" "I" : Cond) ∈ tb_ := tb_w 82 rfl rfl
set_option maxRecDepth 100000 in
theorem tb_103 : (.code ⟨"TwinTuners", "tick", "()I"⟩ prog_1_method_8_code 2 (some .int) : Cond) ∈ tb_ := tb_w 103 rfl rfl
set_option maxRecDepth 100000 in
theorem tb_104 : (.methodLink "TwinTuners" 121 ⟨"TwinTuners", "tune", "()I"⟩ : Cond) ∈ tb_ := tb_w 104 rfl rfl
set_option maxRecDepth 100000 in
theorem tb_106 : (.instanceMethod ⟨"TwinTuners", "tune", "()I"⟩ : Cond) ∈ tb_ := tb_w 106 rfl rfl
set_option maxRecDepth 100000 in
theorem tb_107 : (.code ⟨"TwinTuners", "tune", "()I"⟩ prog_1_method_29_code 4 (some .int) : Cond) ∈ tb_ := tb_w 107 rfl rfl
set_option maxRecDepth 100000 in
theorem tb_108 : (.methodLink "TwinTuners" 97 ⟨"TwinTuners$Plan", "make", "([LTwinTuners$Request;II)V"⟩ : Cond) ∈ tb_ := tb_w 108 rfl rfl
set_option maxRecDepth 100000 in
theorem tb_109 : (.instanceMethod ⟨"TwinTuners$Plan", "make", "([LTwinTuners$Request;II)V"⟩ : Cond) ∈ tb_ := tb_w 109 rfl rfl
set_option maxRecDepth 100000 in
theorem tb_110 : (.selects "TwinTuners$Plan" ⟨"TwinTuners$Plan", "make", "([LTwinTuners$Request;II)V"⟩ ⟨"TwinTuners$Plan", "make", "([LTwinTuners$Request;II)V"⟩ : Cond) ∈ tb_ := tb_w 110 rfl rfl
set_option maxRecDepth 100000 in
theorem tb_111 : (.code ⟨"TwinTuners$Plan", "make", "([LTwinTuners$Request;II)V"⟩ prog_3_method_2_code 5 none : Cond) ∈ tb_ := tb_w 111 rfl rfl
set_option maxRecDepth 100000 in
theorem tb_112 : (.methodLink "TwinTuners$Plan" 21 ⟨"TwinTuners$Request", "isOpen", "()Z"⟩ : Cond) ∈ tb_ := tb_w 112 rfl rfl
set_option maxRecDepth 100000 in
theorem tb_113 : (.instanceMethod ⟨"TwinTuners$Request", "isOpen", "()Z"⟩ : Cond) ∈ tb_ := tb_w 113 rfl rfl
set_option maxRecDepth 100000 in
theorem tb_114 : (.selects "TwinTuners$Request" ⟨"TwinTuners$Request", "isOpen", "()Z"⟩ ⟨"TwinTuners$Request", "isOpen", "()Z"⟩ : Cond) ∈ tb_ := tb_w 114 rfl rfl
set_option maxRecDepth 100000 in
theorem tb_116 : (.methodLink "TwinTuners$Plan" 25 ⟨"TwinTuners$Plan", "enter", "(LTwinTuners$Request;)V"⟩ : Cond) ∈ tb_ := tb_w 116 rfl rfl
set_option maxRecDepth 100000 in
theorem tb_118 : (.instanceMethod ⟨"TwinTuners$Plan", "enter", "(LTwinTuners$Request;)V"⟩ : Cond) ∈ tb_ := tb_w 118 rfl rfl
set_option maxRecDepth 100000 in
theorem tb_119 : (.code ⟨"TwinTuners$Plan", "enter", "(LTwinTuners$Request;)V"⟩ prog_3_method_3_code 3 none : Cond) ∈ tb_ := tb_w 119 rfl rfl
set_option maxRecDepth 100000 in
theorem tb_124 : (.methodLink "TwinTuners$Plan" 29 ⟨"TwinTuners$Plan", "takeRunning", "(I)V"⟩ : Cond) ∈ tb_ := tb_w 124 rfl rfl
set_option maxRecDepth 100000 in
theorem tb_126 : (.instanceMethod ⟨"TwinTuners$Plan", "takeRunning", "(I)V"⟩ : Cond) ∈ tb_ := tb_w 126 rfl rfl
set_option maxRecDepth 100000 in
theorem tb_128 : (.methodLink "TwinTuners$Plan" 33 ⟨"TwinTuners$Plan", "takeCores", "()V"⟩ : Cond) ∈ tb_ := tb_w 128 rfl rfl
set_option maxRecDepth 100000 in
theorem tb_130 : (.instanceMethod ⟨"TwinTuners$Plan", "takeCores", "()V"⟩ : Cond) ∈ tb_ := tb_w 130 rfl rfl
set_option maxRecDepth 100000 in
theorem tb_146 : (.methodLink "TwinTuners$Plan" 36 ⟨"TwinTuners$Plan", "padRunning", "(I)V"⟩ : Cond) ∈ tb_ := tb_w 146 rfl rfl
set_option maxRecDepth 100000 in
theorem tb_148 : (.instanceMethod ⟨"TwinTuners$Plan", "padRunning", "(I)V"⟩ : Cond) ∈ tb_ := tb_w 148 rfl rfl
set_option maxRecDepth 100000 in
theorem tb_154 : (.methodLink "TwinTuners$Plan" 39 ⟨"TwinTuners$Plan", "padWaiting", "(I)V"⟩ : Cond) ∈ tb_ := tb_w 154 rfl rfl
set_option maxRecDepth 100000 in
theorem tb_156 : (.instanceMethod ⟨"TwinTuners$Plan", "padWaiting", "(I)V"⟩ : Cond) ∈ tb_ := tb_w 156 rfl rfl
set_option maxRecDepth 100000 in
theorem tb_166 : (.methodLink "TwinTuners" 206 ⟨"TwinTuners$Request", "follow", "(I)V"⟩ : Cond) ∈ tb_ := tb_w 166 rfl rfl
set_option maxRecDepth 100000 in
theorem tb_167 : (.instanceMethod ⟨"TwinTuners$Request", "follow", "(I)V"⟩ : Cond) ∈ tb_ := tb_w 167 rfl rfl
set_option maxRecDepth 100000 in
theorem tb_168 : (.selects "TwinTuners$Request" ⟨"TwinTuners$Request", "follow", "(I)V"⟩ ⟨"TwinTuners$Request", "follow", "(I)V"⟩ : Cond) ∈ tb_ := tb_w 168 rfl rfl
set_option maxRecDepth 100000 in
theorem tb_171 : (.methodLink "TwinTuners" 212 ⟨"java/lang/Integer", "bitCount", "(I)I"⟩ : Cond) ∈ tb_ := tb_w 171 rfl rfl
set_option maxRecDepth 100000 in
theorem tb_172 : (.methodLink "TwinTuners" 124 ⟨"TwinTuners", "passSecond", "(I)I"⟩ : Cond) ∈ tb_ := tb_w 172 rfl rfl
set_option maxRecDepth 100000 in
theorem tb_174 : (.instanceMethod ⟨"TwinTuners", "passSecond", "(I)I"⟩ : Cond) ∈ tb_ := tb_w 174 rfl rfl
set_option maxRecDepth 100000 in
theorem tb_175 : (.code ⟨"TwinTuners", "passSecond", "(I)I"⟩ prog_1_method_30_code 4 (some .int) : Cond) ∈ tb_ := tb_w 175 rfl rfl
set_option maxRecDepth 100000 in
theorem tb_176 : (.methodLink "TwinTuners" 217 ⟨"TwinTuners", "recordSecond", "(LTwinTuners$Request;)Z"⟩ : Cond) ∈ tb_ := tb_w 176 rfl rfl
set_option maxRecDepth 100000 in
theorem tb_178 : (.instanceMethod ⟨"TwinTuners", "recordSecond", "(LTwinTuners$Request;)Z"⟩ : Cond) ∈ tb_ := tb_w 178 rfl rfl
set_option maxRecDepth 100000 in
theorem tb_179 : (.code ⟨"TwinTuners", "recordSecond", "(LTwinTuners$Request;)Z"⟩ prog_1_method_32_code 4 (some .boolean) : Cond) ∈ tb_ := tb_w 179 rfl rfl
set_option maxRecDepth 100000 in
theorem tb_180 : (.methodLink "TwinTuners" 228 ⟨"TwinTuners", "slotFor", "(II)I"⟩ : Cond) ∈ tb_ := tb_w 180 rfl rfl
set_option maxRecDepth 100000 in
theorem tb_182 : (.instanceMethod ⟨"TwinTuners", "slotFor", "(II)I"⟩ : Cond) ∈ tb_ := tb_w 182 rfl rfl
set_option maxRecDepth 100000 in
theorem tb_183 : (.code ⟨"TwinTuners", "slotFor", "(II)I"⟩ prog_1_method_33_code 4 (some .int) : Cond) ∈ tb_ := tb_w 183 rfl rfl
set_option maxRecDepth 100000 in
theorem tb_184 : (.methodLink "TwinTuners" 235 ⟨"TwinTuners$Disk", "slotOf", "(II)I"⟩ : Cond) ∈ tb_ := tb_w 184 rfl rfl
set_option maxRecDepth 100000 in
theorem tb_188 : (.methodLink "TwinTuners" 166 ⟨"TwinTuners$Disk", "freeSegments", "()I"⟩ : Cond) ∈ tb_ := tb_w 188 rfl rfl
set_option maxRecDepth 100000 in
theorem tb_189 : (.instanceMethod ⟨"TwinTuners$Disk", "freeSegments", "()I"⟩ : Cond) ∈ tb_ := tb_w 189 rfl rfl
set_option maxRecDepth 100000 in
theorem tb_190 : (.selects "TwinTuners$Disk" ⟨"TwinTuners$Disk", "freeSegments", "()I"⟩ ⟨"TwinTuners$Disk", "freeSegments", "()I"⟩ : Cond) ∈ tb_ := tb_w 190 rfl rfl
set_option maxRecDepth 100000 in
theorem tb_196 : (.methodLink "TwinTuners" 238 ⟨"TwinTuners", "makeRoom", "()V"⟩ : Cond) ∈ tb_ := tb_w 196 rfl rfl
set_option maxRecDepth 100000 in
theorem tb_198 : (.instanceMethod ⟨"TwinTuners", "makeRoom", "()V"⟩ : Cond) ∈ tb_ := tb_w 198 rfl rfl
set_option maxRecDepth 100000 in
theorem tb_199 : (.code ⟨"TwinTuners", "makeRoom", "()V"⟩ prog_1_method_34_code 4 none : Cond) ∈ tb_ := tb_w 199 rfl rfl
set_option maxRecDepth 100000 in
theorem tb_200 : (.methodLink "TwinTuners" 244 ⟨"TwinTuners", "mayGo", "(LTwinTuners$Request;)Z"⟩ : Cond) ∈ tb_ := tb_w 200 rfl rfl
set_option maxRecDepth 100000 in
theorem tb_202 : (.instanceMethod ⟨"TwinTuners", "mayGo", "(LTwinTuners$Request;)Z"⟩ : Cond) ∈ tb_ := tb_w 202 rfl rfl
set_option maxRecDepth 100000 in
theorem tb_203 : (.code ⟨"TwinTuners", "mayGo", "(LTwinTuners$Request;)Z"⟩ prog_1_method_35_code 2 (some .boolean) : Cond) ∈ tb_ := tb_w 203 rfl rfl
set_option maxRecDepth 100000 in
theorem tb_204 : (.methodLink "TwinTuners" 250 ⟨"TwinTuners$Disk", "segmentsOf", "(I)I"⟩ : Cond) ∈ tb_ := tb_w 204 rfl rfl
set_option maxRecDepth 100000 in
theorem tb_205 : (.methodLink "TwinTuners" 247 ⟨"TwinTuners$Request", "goesBefore", "(LTwinTuners$Request;)Z"⟩ : Cond) ∈ tb_ := tb_w 205 rfl rfl
set_option maxRecDepth 100000 in
theorem tb_206 : (.instanceMethod ⟨"TwinTuners$Request", "goesBefore", "(LTwinTuners$Request;)Z"⟩ : Cond) ∈ tb_ := tb_w 206 rfl rfl
set_option maxRecDepth 100000 in
theorem tb_207 : (.selects "TwinTuners$Request" ⟨"TwinTuners$Request", "goesBefore", "(LTwinTuners$Request;)Z"⟩ ⟨"TwinTuners$Request", "goesBefore", "(LTwinTuners$Request;)Z"⟩ : Cond) ∈ tb_ := tb_w 207 rfl rfl
set_option maxRecDepth 100000 in
theorem tb_209 : (.methodLink "TwinTuners" 162 ⟨"TwinTuners", "wipe", "(LTwinTuners$Request;)I"⟩ : Cond) ∈ tb_ := tb_w 209 rfl rfl
set_option maxRecDepth 100000 in
theorem tb_211 : (.instanceMethod ⟨"TwinTuners", "wipe", "(LTwinTuners$Request;)I"⟩ : Cond) ∈ tb_ := tb_w 211 rfl rfl
set_option maxRecDepth 100000 in
theorem tb_212 : (.code ⟨"TwinTuners", "wipe", "(LTwinTuners$Request;)I"⟩ prog_1_method_36_code 2 (some .int) : Cond) ∈ tb_ := tb_w 212 rfl rfl
set_option maxRecDepth 100000 in
theorem tb_213 : (.methodLink "TwinTuners" 253 ⟨"TwinTuners$Disk", "release", "(I)I"⟩ : Cond) ∈ tb_ := tb_w 213 rfl rfl
set_option maxRecDepth 100000 in
theorem tb_214 : (.instanceMethod ⟨"TwinTuners$Disk", "release", "(I)I"⟩ : Cond) ∈ tb_ := tb_w 214 rfl rfl
set_option maxRecDepth 100000 in
theorem tb_215 : (.selects "TwinTuners$Disk" ⟨"TwinTuners$Disk", "release", "(I)I"⟩ ⟨"TwinTuners$Disk", "release", "(I)I"⟩ : Cond) ∈ tb_ := tb_w 215 rfl rfl
set_option maxRecDepth 100000 in
theorem tb_217 : (.methodLink "TwinTuners" 241 ⟨"TwinTuners$Disk", "take", "(II)I"⟩ : Cond) ∈ tb_ := tb_w 217 rfl rfl
set_option maxRecDepth 100000 in
theorem tb_218 : (.instanceMethod ⟨"TwinTuners$Disk", "take", "(II)I"⟩ : Cond) ∈ tb_ := tb_w 218 rfl rfl
set_option maxRecDepth 100000 in
theorem tb_219 : (.selects "TwinTuners$Disk" ⟨"TwinTuners$Disk", "take", "(II)I"⟩ ⟨"TwinTuners$Disk", "take", "(II)I"⟩ : Cond) ∈ tb_ := tb_w 219 rfl rfl
set_option maxRecDepth 100000 in
theorem tb_221 : (.methodLink "TwinTuners" 231 ⟨"TwinTuners$Disk", "write", "(III)V"⟩ : Cond) ∈ tb_ := tb_w 221 rfl rfl
set_option maxRecDepth 100000 in
theorem tb_222 : (.instanceMethod ⟨"TwinTuners$Disk", "write", "(III)V"⟩ : Cond) ∈ tb_ := tb_w 222 rfl rfl
set_option maxRecDepth 100000 in
theorem tb_223 : (.selects "TwinTuners$Disk" ⟨"TwinTuners$Disk", "write", "(III)V"⟩ ⟨"TwinTuners$Disk", "write", "(III)V"⟩ : Cond) ∈ tb_ := tb_w 223 rfl rfl
set_option maxRecDepth 100000 in
theorem tb_228 : (.methodLink "TwinTuners" 221 ⟨"TwinTuners", "keepWatched", "(Z)V"⟩ : Cond) ∈ tb_ := tb_w 228 rfl rfl
set_option maxRecDepth 100000 in
theorem tb_230 : (.instanceMethod ⟨"TwinTuners", "keepWatched", "(Z)V"⟩ : Cond) ∈ tb_ := tb_w 230 rfl rfl
set_option maxRecDepth 100000 in
theorem tb_231 : (.code ⟨"TwinTuners", "keepWatched", "(Z)V"⟩ prog_1_method_31_code 2 none : Cond) ∈ tb_ := tb_w 231 rfl rfl
set_option maxRecDepth 100000 in
theorem tb_232 : (.methodLink "TwinTuners" 225 ⟨"TwinTuners$Rewind", "keep", "(I)V"⟩ : Cond) ∈ tb_ := tb_w 232 rfl rfl
set_option maxRecDepth 100000 in
theorem tb_233 : (.instanceMethod ⟨"TwinTuners$Rewind", "keep", "(I)V"⟩ : Cond) ∈ tb_ := tb_w 233 rfl rfl
set_option maxRecDepth 100000 in
theorem tb_234 : (.selects "TwinTuners$Rewind" ⟨"TwinTuners$Rewind", "keep", "(I)V"⟩ ⟨"TwinTuners$Rewind", "keep", "(I)V"⟩ : Cond) ∈ tb_ := tb_w 234 rfl rfl
set_option maxRecDepth 100000 in
theorem tb_239 : (.methodLink "TwinTuners" 130 ⟨"TwinTuners$Rewind", "forget", "()V"⟩ : Cond) ∈ tb_ := tb_w 239 rfl rfl
set_option maxRecDepth 100000 in
theorem tb_240 : (.instanceMethod ⟨"TwinTuners$Rewind", "forget", "()V"⟩ : Cond) ∈ tb_ := tb_w 240 rfl rfl
set_option maxRecDepth 100000 in
theorem tb_241 : (.selects "TwinTuners$Rewind" ⟨"TwinTuners$Rewind", "forget", "()V"⟩ ⟨"TwinTuners$Rewind", "forget", "()V"⟩ : Cond) ∈ tb_ := tb_w 241 rfl rfl
set_option maxRecDepth 100000 in
theorem tb_373 : (.fieldLink "TwinTuners" 137 "TwinTuners$Request" "number" "I" : Cond) ∈ tb_ := tb_w 373 rfl rfl
set_option maxRecDepth 100000 in
theorem tb_376 : (.fieldLink "TwinTuners" 209 "TwinTuners$Request" "channel" "I" : Cond) ∈ tb_ := tb_w 376 rfl rfl
set_option maxRecDepth 100000 in
theorem tb_384 : (.fieldLink "TwinTuners$Plan" 46 "TwinTuners$Request" "priority" "I" : Cond) ∈ tb_ := tb_w 384 rfl rfl
set_option maxRecDepth 100000 in
theorem tb_392 : (.fieldLink "TwinTuners" 90 "TwinTuners$Request" "phase" "I" : Cond) ∈ tb_ := tb_w 392 rfl rfl
set_option maxRecDepth 100000 in
theorem tb_395 : (.fieldLink "TwinTuners" 107 "TwinTuners$Request" "from" "I" : Cond) ∈ tb_ := tb_w 395 rfl rfl
set_option maxRecDepth 100000 in
theorem tb_398 : (.fieldLink "TwinTuners" 113 "TwinTuners$Request" "end" "I" : Cond) ∈ tb_ := tb_w 398 rfl rfl
set_option maxRecDepth 100000 in
theorem tb_406 : (.fieldLink "TwinTuners" 147 "TwinTuners$Request" "secondsShort" "I" : Cond) ∈ tb_ := tb_w 406 rfl rfl
set_option maxRecDepth 100000 in
theorem tb_408 : (.fieldLink "TwinTuners" 174 "TwinTuners$Request" "bookmarks" "I" : Cond) ∈ tb_ := tb_w 408 rfl rfl
set_option maxRecDepth 100000 in
theorem tb_410 : (.fieldLink "TwinTuners" 153 "TwinTuners$Request" "isProtected" "Z" : Cond) ∈ tb_ := tb_w 410 rfl rfl
set_option maxRecDepth 100000 in
theorem tb_412 : (.fieldLink "TwinTuners" 157 "TwinTuners$Request" "isSeen" "Z" : Cond) ∈ tb_ := tb_w 412 rfl rfl
theorem ts_0 : (.selects "TwinTuners" ⟨"TwinTuners", "tune", "()I"⟩ ⟨"TwinTuners", "tune", "()I"⟩ : Cond) ∈ tb_ := ts_w 0 rfl rfl
theorem ts_1 : (.selects "TwinTuners$Plan" ⟨"TwinTuners$Plan", "enter", "(LTwinTuners$Request;)V"⟩ ⟨"TwinTuners$Plan", "enter", "(LTwinTuners$Request;)V"⟩ : Cond) ∈ tb_ := ts_w 1 rfl rfl
theorem ts_2 : (.selects "TwinTuners$Plan" ⟨"TwinTuners$Plan", "takeRunning", "(I)V"⟩ ⟨"TwinTuners$Plan", "takeRunning", "(I)V"⟩ : Cond) ∈ tb_ := ts_w 2 rfl rfl
theorem ts_3 : (.selects "TwinTuners$Plan" ⟨"TwinTuners$Plan", "takeCores", "()V"⟩ ⟨"TwinTuners$Plan", "takeCores", "()V"⟩ : Cond) ∈ tb_ := ts_w 3 rfl rfl
theorem ts_6 : (.selects "TwinTuners$Plan" ⟨"TwinTuners$Plan", "padRunning", "(I)V"⟩ ⟨"TwinTuners$Plan", "padRunning", "(I)V"⟩ : Cond) ∈ tb_ := ts_w 6 rfl rfl
theorem ts_8 : (.selects "TwinTuners$Plan" ⟨"TwinTuners$Plan", "padWaiting", "(I)V"⟩ ⟨"TwinTuners$Plan", "padWaiting", "(I)V"⟩ : Cond) ∈ tb_ := ts_w 8 rfl rfl
theorem ts_10 : (.selects "TwinTuners" ⟨"TwinTuners", "passSecond", "(I)I"⟩ ⟨"TwinTuners", "passSecond", "(I)I"⟩ : Cond) ∈ tb_ := ts_w 10 rfl rfl
theorem ts_11 : (.selects "TwinTuners" ⟨"TwinTuners", "recordSecond", "(LTwinTuners$Request;)Z"⟩ ⟨"TwinTuners", "recordSecond", "(LTwinTuners$Request;)Z"⟩ : Cond) ∈ tb_ := ts_w 11 rfl rfl
theorem ts_12 : (.selects "TwinTuners" ⟨"TwinTuners", "slotFor", "(II)I"⟩ ⟨"TwinTuners", "slotFor", "(II)I"⟩ : Cond) ∈ tb_ := ts_w 12 rfl rfl
theorem ts_13 : (.selects "TwinTuners" ⟨"TwinTuners", "makeRoom", "()V"⟩ ⟨"TwinTuners", "makeRoom", "()V"⟩ : Cond) ∈ tb_ := ts_w 13 rfl rfl
theorem ts_14 : (.selects "TwinTuners" ⟨"TwinTuners", "mayGo", "(LTwinTuners$Request;)Z"⟩ ⟨"TwinTuners", "mayGo", "(LTwinTuners$Request;)Z"⟩ : Cond) ∈ tb_ := ts_w 14 rfl rfl
theorem ts_15 : (.selects "TwinTuners" ⟨"TwinTuners", "wipe", "(LTwinTuners$Request;)I"⟩ ⟨"TwinTuners", "wipe", "(LTwinTuners$Request;)I"⟩ : Cond) ∈ tb_ := ts_w 15 rfl rfl
theorem ts_16 : (.selects "TwinTuners" ⟨"TwinTuners", "keepWatched", "(Z)V"⟩ ⟨"TwinTuners", "keepWatched", "(Z)V"⟩ : Cond) ∈ tb_ := ts_w 16 rfl rfl
theorem d_PL_enter_0 : decode c_PL_enter 0 = .ok (.aload_n 0, 1) := by decide +kernel
theorem d_PL_enter_1 : decode c_PL_enter 1 = .ok (.getfield 17, 3) := by decide +kernel
theorem d_PL_enter_4 : decode c_PL_enter 4 = .ok (.bipush 12, 2) := by decide +kernel
theorem d_PL_enter_6 : decode c_PL_enter 6 = .ok (.if_icmp .lt 4, 3) := by decide +kernel
theorem d_PL_enter_9 : decode c_PL_enter 9 = .ok (.return_, 1) := by decide +kernel
theorem d_PL_enter_10 : decode c_PL_enter 10 = .ok (.aload_n 1, 1) := by decide +kernel
theorem d_PL_enter_11 : decode c_PL_enter 11 = .ok (.iconst 0, 1) := by decide +kernel
theorem d_PL_enter_12 : decode c_PL_enter 12 = .ok (.iconst 0, 1) := by decide +kernel
theorem d_PL_enter_13 : decode c_PL_enter 13 = .ok (.invokevirtual 42, 3) := by decide +kernel
theorem d_PL_enter_16 : decode c_PL_enter 16 = .ok (.aload_n 0, 1) := by decide +kernel
theorem d_PL_enter_17 : decode c_PL_enter 17 = .ok (.getfield 17, 3) := by decide +kernel
theorem d_PL_enter_20 : decode c_PL_enter 20 = .ok (.istore_n 2, 1) := by decide +kernel
theorem d_PL_enter_21 : decode c_PL_enter 21 = .ok (.iload_n 2, 1) := by decide +kernel
theorem d_PL_enter_22 : decode c_PL_enter 22 = .ok (.ifCond .le 41, 3) := by decide +kernel
theorem d_PL_enter_25 : decode c_PL_enter 25 = .ok (.aload_n 0, 1) := by decide +kernel
theorem d_PL_enter_26 : decode c_PL_enter 26 = .ok (.getfield 11, 3) := by decide +kernel
theorem d_PL_enter_29 : decode c_PL_enter 29 = .ok (.iload_n 2, 1) := by decide +kernel
theorem d_PL_enter_30 : decode c_PL_enter 30 = .ok (.iconst 1, 1) := by decide +kernel
theorem d_PL_enter_31 : decode c_PL_enter 31 = .ok (.isub, 1) := by decide +kernel
theorem d_PL_enter_32 : decode c_PL_enter 32 = .ok (.aaload, 1) := by decide +kernel
theorem d_PL_enter_33 : decode c_PL_enter 33 = .ok (.getfield 46, 3) := by decide +kernel
theorem d_PL_enter_36 : decode c_PL_enter 36 = .ok (.aload_n 1, 1) := by decide +kernel
theorem d_PL_enter_37 : decode c_PL_enter 37 = .ok (.getfield 46, 3) := by decide +kernel
theorem d_PL_enter_40 : decode c_PL_enter 40 = .ok (.if_icmp .ge 23, 3) := by decide +kernel
theorem d_PL_enter_43 : decode c_PL_enter 43 = .ok (.aload_n 0, 1) := by decide +kernel
theorem d_PL_enter_44 : decode c_PL_enter 44 = .ok (.getfield 11, 3) := by decide +kernel
theorem d_PL_enter_47 : decode c_PL_enter 47 = .ok (.iload_n 2, 1) := by decide +kernel
theorem d_PL_enter_48 : decode c_PL_enter 48 = .ok (.aload_n 0, 1) := by decide +kernel
theorem d_PL_enter_49 : decode c_PL_enter 49 = .ok (.getfield 11, 3) := by decide +kernel
theorem d_PL_enter_52 : decode c_PL_enter 52 = .ok (.iload_n 2, 1) := by decide +kernel
theorem d_PL_enter_53 : decode c_PL_enter 53 = .ok (.iconst 1, 1) := by decide +kernel
theorem d_PL_enter_54 : decode c_PL_enter 54 = .ok (.isub, 1) := by decide +kernel
theorem d_PL_enter_55 : decode c_PL_enter 55 = .ok (.aaload, 1) := by decide +kernel
theorem d_PL_enter_56 : decode c_PL_enter 56 = .ok (.aastore, 1) := by decide +kernel
theorem d_PL_enter_57 : decode c_PL_enter 57 = .ok (.iinc 2 (-1), 3) := by decide +kernel
theorem d_PL_enter_60 : decode c_PL_enter 60 = .ok (.goto (-39), 3) := by decide +kernel
theorem d_PL_enter_63 : decode c_PL_enter 63 = .ok (.aload_n 0, 1) := by decide +kernel
theorem d_PL_enter_64 : decode c_PL_enter 64 = .ok (.getfield 11, 3) := by decide +kernel
theorem d_PL_enter_67 : decode c_PL_enter 67 = .ok (.iload_n 2, 1) := by decide +kernel
theorem d_PL_enter_68 : decode c_PL_enter 68 = .ok (.aload_n 1, 1) := by decide +kernel
theorem d_PL_enter_69 : decode c_PL_enter 69 = .ok (.aastore, 1) := by decide +kernel
theorem d_PL_enter_70 : decode c_PL_enter 70 = .ok (.aload_n 0, 1) := by decide +kernel
theorem d_PL_enter_71 : decode c_PL_enter 71 = .ok (.dup, 1) := by decide +kernel
theorem d_PL_enter_72 : decode c_PL_enter 72 = .ok (.getfield 17, 3) := by decide +kernel
theorem d_PL_enter_75 : decode c_PL_enter 75 = .ok (.iconst 1, 1) := by decide +kernel
theorem d_PL_enter_76 : decode c_PL_enter 76 = .ok (.iadd, 1) := by decide +kernel
theorem d_PL_enter_77 : decode c_PL_enter 77 = .ok (.putfield 17, 3) := by decide +kernel
theorem d_PL_enter_80 : decode c_PL_enter 80 = .ok (.return_, 1) := by decide +kernel
theorem d_PL_make_0 : decode c_PL_make 0 = .ok (.aload_n 0, 1) := by decide +kernel
theorem d_PL_make_1 : decode c_PL_make 1 = .ok (.iconst 0, 1) := by decide +kernel
theorem d_PL_make_2 : decode c_PL_make 2 = .ok (.putfield 17, 3) := by decide +kernel
theorem d_PL_make_5 : decode c_PL_make 5 = .ok (.iconst 0, 1) := by decide +kernel
theorem d_PL_make_6 : decode c_PL_make 6 = .ok (.istore 4, 2) := by decide +kernel
theorem d_PL_make_8 : decode c_PL_make 8 = .ok (.iload 4, 2) := by decide +kernel
theorem d_PL_make_10 : decode c_PL_make 10 = .ok (.iload_n 2, 1) := by decide +kernel
theorem d_PL_make_11 : decode c_PL_make 11 = .ok (.if_icmp .ge 27, 3) := by decide +kernel
theorem d_PL_make_14 : decode c_PL_make 14 = .ok (.aload_n 1, 1) := by decide +kernel
theorem d_PL_make_15 : decode c_PL_make 15 = .ok (.iload 4, 2) := by decide +kernel
theorem d_PL_make_17 : decode c_PL_make 17 = .ok (.aaload, 1) := by decide +kernel
theorem d_PL_make_18 : decode c_PL_make 18 = .ok (.invokevirtual 21, 3) := by decide +kernel
theorem d_PL_make_21 : decode c_PL_make 21 = .ok (.ifCond .eq 11, 3) := by decide +kernel
theorem d_PL_make_24 : decode c_PL_make 24 = .ok (.aload_n 0, 1) := by decide +kernel
theorem d_PL_make_25 : decode c_PL_make 25 = .ok (.aload_n 1, 1) := by decide +kernel
theorem d_PL_make_26 : decode c_PL_make 26 = .ok (.iload 4, 2) := by decide +kernel
theorem d_PL_make_28 : decode c_PL_make 28 = .ok (.aaload, 1) := by decide +kernel
theorem d_PL_make_29 : decode c_PL_make 29 = .ok (.invokevirtual 25, 3) := by decide +kernel
theorem d_PL_make_32 : decode c_PL_make 32 = .ok (.iinc 4 1, 3) := by decide +kernel
theorem d_PL_make_35 : decode c_PL_make 35 = .ok (.goto (-27), 3) := by decide +kernel
theorem d_PL_make_38 : decode c_PL_make 38 = .ok (.aload_n 0, 1) := by decide +kernel
theorem d_PL_make_39 : decode c_PL_make 39 = .ok (.iload_n 3, 1) := by decide +kernel
theorem d_PL_make_40 : decode c_PL_make 40 = .ok (.invokevirtual 29, 3) := by decide +kernel
theorem d_PL_make_43 : decode c_PL_make 43 = .ok (.aload_n 0, 1) := by decide +kernel
theorem d_PL_make_44 : decode c_PL_make 44 = .ok (.invokevirtual 33, 3) := by decide +kernel
theorem d_PL_make_47 : decode c_PL_make 47 = .ok (.aload_n 0, 1) := by decide +kernel
theorem d_PL_make_48 : decode c_PL_make 48 = .ok (.iload_n 3, 1) := by decide +kernel
theorem d_PL_make_49 : decode c_PL_make 49 = .ok (.invokevirtual 36, 3) := by decide +kernel
theorem d_PL_make_52 : decode c_PL_make 52 = .ok (.aload_n 0, 1) := by decide +kernel
theorem d_PL_make_53 : decode c_PL_make 53 = .ok (.iload_n 3, 1) := by decide +kernel
theorem d_PL_make_54 : decode c_PL_make 54 = .ok (.invokevirtual 39, 3) := by decide +kernel
theorem d_PL_make_57 : decode c_PL_make 57 = .ok (.return_, 1) := by decide +kernel
theorem d_TT_keepWatched_0 : decode c_TT_keepWatched 0 = .ok (.iload_n 1, 1) := by decide +kernel
theorem d_TT_keepWatched_1 : decode c_TT_keepWatched 1 = .ok (.ifCond .eq 22, 3) := by decide +kernel
theorem d_TT_keepWatched_4 : decode c_TT_keepWatched 4 = .ok (.aload_n 0, 1) := by decide +kernel
theorem d_TT_keepWatched_5 : decode c_TT_keepWatched 5 = .ok (.getfield 36, 3) := by decide +kernel
theorem d_TT_keepWatched_8 : decode c_TT_keepWatched 8 = .ok (.aload_n 0, 1) := by decide +kernel
theorem d_TT_keepWatched_9 : decode c_TT_keepWatched 9 = .ok (.getfield 15, 3) := by decide +kernel
theorem d_TT_keepWatched_12 : decode c_TT_keepWatched 12 = .ok (.aload_n 0, 1) := by decide +kernel
theorem d_TT_keepWatched_13 : decode c_TT_keepWatched 13 = .ok (.getfield 47, 3) := by decide +kernel
theorem d_TT_keepWatched_16 : decode c_TT_keepWatched 16 = .ok (.iaload, 1) := by decide +kernel
theorem d_TT_keepWatched_17 : decode c_TT_keepWatched 17 = .ok (.invokevirtual 225, 3) := by decide +kernel
theorem d_TT_keepWatched_20 : decode c_TT_keepWatched 20 = .ok (.goto 10, 3) := by decide +kernel
theorem d_TT_keepWatched_23 : decode c_TT_keepWatched 23 = .ok (.aload_n 0, 1) := by decide +kernel
theorem d_TT_keepWatched_24 : decode c_TT_keepWatched 24 = .ok (.getfield 36, 3) := by decide +kernel
theorem d_TT_keepWatched_27 : decode c_TT_keepWatched 27 = .ok (.invokevirtual 130, 3) := by decide +kernel
theorem d_TT_keepWatched_30 : decode c_TT_keepWatched 30 = .ok (.return_, 1) := by decide +kernel
theorem d_TT_makeRoom_0 : decode c_TT_makeRoom 0 = .ok (.aconst_null, 1) := by decide +kernel
theorem d_TT_makeRoom_1 : decode c_TT_makeRoom 1 = .ok (.astore_n 1, 1) := by decide +kernel
theorem d_TT_makeRoom_2 : decode c_TT_makeRoom 2 = .ok (.iconst 0, 1) := by decide +kernel
theorem d_TT_makeRoom_3 : decode c_TT_makeRoom 3 = .ok (.istore_n 2, 1) := by decide +kernel
theorem d_TT_makeRoom_4 : decode c_TT_makeRoom 4 = .ok (.iload_n 2, 1) := by decide +kernel
theorem d_TT_makeRoom_5 : decode c_TT_makeRoom 5 = .ok (.aload_n 0, 1) := by decide +kernel
theorem d_TT_makeRoom_6 : decode c_TT_makeRoom 6 = .ok (.getfield 40, 3) := by decide +kernel
theorem d_TT_makeRoom_9 : decode c_TT_makeRoom 9 = .ok (.if_icmp .ge 38, 3) := by decide +kernel
theorem d_TT_makeRoom_12 : decode c_TT_makeRoom 12 = .ok (.aload_n 0, 1) := by decide +kernel
theorem d_TT_makeRoom_13 : decode c_TT_makeRoom 13 = .ok (.getfield 11, 3) := by decide +kernel
theorem d_TT_makeRoom_16 : decode c_TT_makeRoom 16 = .ok (.iload_n 2, 1) := by decide +kernel
theorem d_TT_makeRoom_17 : decode c_TT_makeRoom 17 = .ok (.aaload, 1) := by decide +kernel
theorem d_TT_makeRoom_18 : decode c_TT_makeRoom 18 = .ok (.astore_n 3, 1) := by decide +kernel
theorem d_TT_makeRoom_19 : decode c_TT_makeRoom 19 = .ok (.aload_n 0, 1) := by decide +kernel
theorem d_TT_makeRoom_20 : decode c_TT_makeRoom 20 = .ok (.aload_n 3, 1) := by decide +kernel
theorem d_TT_makeRoom_21 : decode c_TT_makeRoom 21 = .ok (.invokevirtual 244, 3) := by decide +kernel
theorem d_TT_makeRoom_24 : decode c_TT_makeRoom 24 = .ok (.ifCond .eq 17, 3) := by decide +kernel
theorem d_TT_makeRoom_27 : decode c_TT_makeRoom 27 = .ok (.aload_n 1, 1) := by decide +kernel
theorem d_TT_makeRoom_28 : decode c_TT_makeRoom 28 = .ok (.ifnull 11, 3) := by decide +kernel
theorem d_TT_makeRoom_31 : decode c_TT_makeRoom 31 = .ok (.aload_n 3, 1) := by decide +kernel
theorem d_TT_makeRoom_32 : decode c_TT_makeRoom 32 = .ok (.aload_n 1, 1) := by decide +kernel
theorem d_TT_makeRoom_33 : decode c_TT_makeRoom 33 = .ok (.invokevirtual 247, 3) := by decide +kernel
theorem d_TT_makeRoom_36 : decode c_TT_makeRoom 36 = .ok (.ifCond .eq 5, 3) := by decide +kernel
theorem d_TT_makeRoom_39 : decode c_TT_makeRoom 39 = .ok (.aload_n 3, 1) := by decide +kernel
theorem d_TT_makeRoom_40 : decode c_TT_makeRoom 40 = .ok (.astore_n 1, 1) := by decide +kernel
theorem d_TT_makeRoom_41 : decode c_TT_makeRoom 41 = .ok (.iinc 2 1, 3) := by decide +kernel
theorem d_TT_makeRoom_44 : decode c_TT_makeRoom 44 = .ok (.goto (-40), 3) := by decide +kernel
theorem d_TT_makeRoom_47 : decode c_TT_makeRoom 47 = .ok (.aload_n 1, 1) := by decide +kernel
theorem d_TT_makeRoom_48 : decode c_TT_makeRoom 48 = .ok (.ifnull 9, 3) := by decide +kernel
theorem d_TT_makeRoom_51 : decode c_TT_makeRoom 51 = .ok (.aload_n 0, 1) := by decide +kernel
theorem d_TT_makeRoom_52 : decode c_TT_makeRoom 52 = .ok (.aload_n 1, 1) := by decide +kernel
theorem d_TT_makeRoom_53 : decode c_TT_makeRoom 53 = .ok (.invokevirtual 162, 3) := by decide +kernel
theorem d_TT_makeRoom_56 : decode c_TT_makeRoom 56 = .ok (.pop, 1) := by decide +kernel
theorem d_TT_makeRoom_57 : decode c_TT_makeRoom 57 = .ok (.return_, 1) := by decide +kernel
theorem d_TT_mayGo_0 : decode c_TT_mayGo 0 = .ok (.aload_n 1, 1) := by decide +kernel
theorem d_TT_mayGo_1 : decode c_TT_mayGo 1 = .ok (.getfield 90, 3) := by decide +kernel
theorem d_TT_mayGo_4 : decode c_TT_mayGo 4 = .ok (.iconst 2, 1) := by decide +kernel
theorem d_TT_mayGo_5 : decode c_TT_mayGo 5 = .ok (.if_icmp .ne 28, 3) := by decide +kernel
theorem d_TT_mayGo_8 : decode c_TT_mayGo 8 = .ok (.aload_n 1, 1) := by decide +kernel
theorem d_TT_mayGo_9 : decode c_TT_mayGo 9 = .ok (.getfield 153, 3) := by decide +kernel
theorem d_TT_mayGo_12 : decode c_TT_mayGo 12 = .ok (.ifCond .ne 21, 3) := by decide +kernel
theorem d_TT_mayGo_15 : decode c_TT_mayGo 15 = .ok (.aload_n 0, 1) := by decide +kernel
theorem d_TT_mayGo_16 : decode c_TT_mayGo 16 = .ok (.getfield 29, 3) := by decide +kernel
theorem d_TT_mayGo_19 : decode c_TT_mayGo 19 = .ok (.aload_n 1, 1) := by decide +kernel
theorem d_TT_mayGo_20 : decode c_TT_mayGo 20 = .ok (.getfield 137, 3) := by decide +kernel
theorem d_TT_mayGo_23 : decode c_TT_mayGo 23 = .ok (.invokevirtual 250, 3) := by decide +kernel
theorem d_TT_mayGo_26 : decode c_TT_mayGo 26 = .ok (.ifCond .le 7, 3) := by decide +kernel
theorem d_TT_mayGo_29 : decode c_TT_mayGo 29 = .ok (.iconst 1, 1) := by decide +kernel
theorem d_TT_mayGo_30 : decode c_TT_mayGo 30 = .ok (.goto 4, 3) := by decide +kernel
theorem d_TT_mayGo_33 : decode c_TT_mayGo 33 = .ok (.iconst 0, 1) := by decide +kernel
theorem d_TT_mayGo_34 : decode c_TT_mayGo 34 = .ok (.ireturn, 1) := by decide +kernel
theorem d_TT_passSecond_0 : decode c_TT_passSecond 0 = .ok (.iconst 0, 1) := by decide +kernel
theorem d_TT_passSecond_1 : decode c_TT_passSecond 1 = .ok (.istore_n 2, 1) := by decide +kernel
theorem d_TT_passSecond_2 : decode c_TT_passSecond 2 = .ok (.iconst 0, 1) := by decide +kernel
theorem d_TT_passSecond_3 : decode c_TT_passSecond 3 = .ok (.istore_n 3, 1) := by decide +kernel
theorem d_TT_passSecond_4 : decode c_TT_passSecond 4 = .ok (.iload_n 3, 1) := by decide +kernel
theorem d_TT_passSecond_5 : decode c_TT_passSecond 5 = .ok (.aload_n 0, 1) := by decide +kernel
theorem d_TT_passSecond_6 : decode c_TT_passSecond 6 = .ok (.getfield 40, 3) := by decide +kernel
theorem d_TT_passSecond_9 : decode c_TT_passSecond 9 = .ok (.if_icmp .ge 38, 3) := by decide +kernel
theorem d_TT_passSecond_12 : decode c_TT_passSecond 12 = .ok (.aload_n 0, 1) := by decide +kernel
theorem d_TT_passSecond_13 : decode c_TT_passSecond 13 = .ok (.getfield 11, 3) := by decide +kernel
theorem d_TT_passSecond_16 : decode c_TT_passSecond 16 = .ok (.iload_n 3, 1) := by decide +kernel
theorem d_TT_passSecond_17 : decode c_TT_passSecond 17 = .ok (.aaload, 1) := by decide +kernel
theorem d_TT_passSecond_18 : decode c_TT_passSecond 18 = .ok (.getfield 90, 3) := by decide +kernel
theorem d_TT_passSecond_21 : decode c_TT_passSecond 21 = .ok (.iconst 1, 1) := by decide +kernel
theorem d_TT_passSecond_22 : decode c_TT_passSecond 22 = .ok (.if_icmp .ne 19, 3) := by decide +kernel
theorem d_TT_passSecond_25 : decode c_TT_passSecond 25 = .ok (.aload_n 0, 1) := by decide +kernel
theorem d_TT_passSecond_26 : decode c_TT_passSecond 26 = .ok (.aload_n 0, 1) := by decide +kernel
theorem d_TT_passSecond_27 : decode c_TT_passSecond 27 = .ok (.getfield 11, 3) := by decide +kernel
theorem d_TT_passSecond_30 : decode c_TT_passSecond 30 = .ok (.iload_n 3, 1) := by decide +kernel
theorem d_TT_passSecond_31 : decode c_TT_passSecond 31 = .ok (.aaload, 1) := by decide +kernel
theorem d_TT_passSecond_32 : decode c_TT_passSecond 32 = .ok (.invokevirtual 217, 3) := by decide +kernel
theorem d_TT_passSecond_35 : decode c_TT_passSecond 35 = .ok (.ifCond .eq 6, 3) := by decide +kernel
theorem d_TT_passSecond_38 : decode c_TT_passSecond 38 = .ok (.iinc 2 1, 3) := by decide +kernel
theorem d_TT_passSecond_41 : decode c_TT_passSecond 41 = .ok (.iinc 3 1, 3) := by decide +kernel
theorem d_TT_passSecond_44 : decode c_TT_passSecond 44 = .ok (.goto (-40), 3) := by decide +kernel
theorem d_TT_passSecond_47 : decode c_TT_passSecond 47 = .ok (.aload_n 0, 1) := by decide +kernel
theorem d_TT_passSecond_48 : decode c_TT_passSecond 48 = .ok (.getfield 47, 3) := by decide +kernel
theorem d_TT_passSecond_51 : decode c_TT_passSecond 51 = .ok (.iconst (-1), 1) := by decide +kernel
theorem d_TT_passSecond_52 : decode c_TT_passSecond 52 = .ok (.if_icmp .eq 23, 3) := by decide +kernel
theorem d_TT_passSecond_55 : decode c_TT_passSecond 55 = .ok (.aload_n 0, 1) := by decide +kernel
theorem d_TT_passSecond_56 : decode c_TT_passSecond 56 = .ok (.iload_n 1, 1) := by decide +kernel
theorem d_TT_passSecond_57 : decode c_TT_passSecond 57 = .ok (.aload_n 0, 1) := by decide +kernel
theorem d_TT_passSecond_58 : decode c_TT_passSecond 58 = .ok (.getfield 47, 3) := by decide +kernel
theorem d_TT_passSecond_61 : decode c_TT_passSecond 61 = .ok (.ishr, 1) := by decide +kernel
theorem d_TT_passSecond_62 : decode c_TT_passSecond 62 = .ok (.iconst 1, 1) := by decide +kernel
theorem d_TT_passSecond_63 : decode c_TT_passSecond 63 = .ok (.iand, 1) := by decide +kernel
theorem d_TT_passSecond_64 : decode c_TT_passSecond 64 = .ok (.ifCond .eq 7, 3) := by decide +kernel
theorem d_TT_passSecond_67 : decode c_TT_passSecond 67 = .ok (.iconst 1, 1) := by decide +kernel
theorem d_TT_passSecond_68 : decode c_TT_passSecond 68 = .ok (.goto 4, 3) := by decide +kernel
theorem d_TT_passSecond_71 : decode c_TT_passSecond 71 = .ok (.iconst 0, 1) := by decide +kernel
theorem d_TT_passSecond_72 : decode c_TT_passSecond 72 = .ok (.invokevirtual 221, 3) := by decide +kernel
theorem d_TT_passSecond_75 : decode c_TT_passSecond 75 = .ok (.aload_n 0, 1) := by decide +kernel
theorem d_TT_passSecond_76 : decode c_TT_passSecond 76 = .ok (.dup, 1) := by decide +kernel
theorem d_TT_passSecond_77 : decode c_TT_passSecond 77 = .ok (.getfield 44, 3) := by decide +kernel
theorem d_TT_passSecond_80 : decode c_TT_passSecond 80 = .ok (.iconst 1, 1) := by decide +kernel
theorem d_TT_passSecond_81 : decode c_TT_passSecond 81 = .ok (.iadd, 1) := by decide +kernel
theorem d_TT_passSecond_82 : decode c_TT_passSecond 82 = .ok (.putfield 44, 3) := by decide +kernel
theorem d_TT_passSecond_85 : decode c_TT_passSecond 85 = .ok (.iconst 0, 1) := by decide +kernel
theorem d_TT_passSecond_86 : decode c_TT_passSecond 86 = .ok (.istore_n 3, 1) := by decide +kernel
theorem d_TT_passSecond_87 : decode c_TT_passSecond 87 = .ok (.iload_n 3, 1) := by decide +kernel
theorem d_TT_passSecond_88 : decode c_TT_passSecond 88 = .ok (.aload_n 0, 1) := by decide +kernel
theorem d_TT_passSecond_89 : decode c_TT_passSecond 89 = .ok (.getfield 40, 3) := by decide +kernel
theorem d_TT_passSecond_92 : decode c_TT_passSecond 92 = .ok (.if_icmp .ge 48, 3) := by decide +kernel
theorem d_TT_passSecond_95 : decode c_TT_passSecond 95 = .ok (.aload_n 0, 1) := by decide +kernel
theorem d_TT_passSecond_96 : decode c_TT_passSecond 96 = .ok (.getfield 11, 3) := by decide +kernel
theorem d_TT_passSecond_99 : decode c_TT_passSecond 99 = .ok (.iload_n 3, 1) := by decide +kernel
theorem d_TT_passSecond_100 : decode c_TT_passSecond 100 = .ok (.aaload, 1) := by decide +kernel
theorem d_TT_passSecond_101 : decode c_TT_passSecond 101 = .ok (.getfield 90, 3) := by decide +kernel
theorem d_TT_passSecond_104 : decode c_TT_passSecond 104 = .ok (.iconst 1, 1) := by decide +kernel
theorem d_TT_passSecond_105 : decode c_TT_passSecond 105 = .ok (.if_icmp .ne 29, 3) := by decide +kernel
theorem d_TT_passSecond_108 : decode c_TT_passSecond 108 = .ok (.aload_n 0, 1) := by decide +kernel
theorem d_TT_passSecond_109 : decode c_TT_passSecond 109 = .ok (.getfield 11, 3) := by decide +kernel
theorem d_TT_passSecond_112 : decode c_TT_passSecond 112 = .ok (.iload_n 3, 1) := by decide +kernel
theorem d_TT_passSecond_113 : decode c_TT_passSecond 113 = .ok (.aaload, 1) := by decide +kernel
theorem d_TT_passSecond_114 : decode c_TT_passSecond 114 = .ok (.getfield 113, 3) := by decide +kernel
theorem d_TT_passSecond_117 : decode c_TT_passSecond 117 = .ok (.aload_n 0, 1) := by decide +kernel
theorem d_TT_passSecond_118 : decode c_TT_passSecond 118 = .ok (.getfield 44, 3) := by decide +kernel
theorem d_TT_passSecond_121 : decode c_TT_passSecond 121 = .ok (.if_icmp .ne 13, 3) := by decide +kernel
theorem d_TT_passSecond_124 : decode c_TT_passSecond 124 = .ok (.aload_n 0, 1) := by decide +kernel
theorem d_TT_passSecond_125 : decode c_TT_passSecond 125 = .ok (.getfield 11, 3) := by decide +kernel
theorem d_TT_passSecond_128 : decode c_TT_passSecond 128 = .ok (.iload_n 3, 1) := by decide +kernel
theorem d_TT_passSecond_129 : decode c_TT_passSecond 129 = .ok (.aaload, 1) := by decide +kernel
theorem d_TT_passSecond_130 : decode c_TT_passSecond 130 = .ok (.iconst 2, 1) := by decide +kernel
theorem d_TT_passSecond_131 : decode c_TT_passSecond 131 = .ok (.putfield 90, 3) := by decide +kernel
theorem d_TT_passSecond_134 : decode c_TT_passSecond 134 = .ok (.iinc 3 1, 3) := by decide +kernel
theorem d_TT_passSecond_137 : decode c_TT_passSecond 137 = .ok (.goto (-50), 3) := by decide +kernel
theorem d_TT_passSecond_140 : decode c_TT_passSecond 140 = .ok (.iload_n 2, 1) := by decide +kernel
theorem d_TT_passSecond_141 : decode c_TT_passSecond 141 = .ok (.ireturn, 1) := by decide +kernel
theorem d_TT_recordSecond_0 : decode c_TT_recordSecond 0 = .ok (.aload_n 0, 1) := by decide +kernel
theorem d_TT_recordSecond_1 : decode c_TT_recordSecond 1 = .ok (.getfield 44, 3) := by decide +kernel
theorem d_TT_recordSecond_4 : decode c_TT_recordSecond 4 = .ok (.aload_n 1, 1) := by decide +kernel
theorem d_TT_recordSecond_5 : decode c_TT_recordSecond 5 = .ok (.getfield 107, 3) := by decide +kernel
theorem d_TT_recordSecond_8 : decode c_TT_recordSecond 8 = .ok (.isub, 1) := by decide +kernel
theorem d_TT_recordSecond_9 : decode c_TT_recordSecond 9 = .ok (.istore_n 2, 1) := by decide +kernel
theorem d_TT_recordSecond_10 : decode c_TT_recordSecond 10 = .ok (.aload_n 0, 1) := by decide +kernel
theorem d_TT_recordSecond_11 : decode c_TT_recordSecond 11 = .ok (.aload_n 1, 1) := by decide +kernel
theorem d_TT_recordSecond_12 : decode c_TT_recordSecond 12 = .ok (.getfield 137, 3) := by decide +kernel
theorem d_TT_recordSecond_15 : decode c_TT_recordSecond 15 = .ok (.iload_n 2, 1) := by decide +kernel
theorem d_TT_recordSecond_16 : decode c_TT_recordSecond 16 = .ok (.iconst 4, 1) := by decide +kernel
theorem d_TT_recordSecond_17 : decode c_TT_recordSecond 17 = .ok (.idiv, 1) := by decide +kernel
theorem d_TT_recordSecond_18 : decode c_TT_recordSecond 18 = .ok (.invokevirtual 228, 3) := by decide +kernel
theorem d_TT_recordSecond_21 : decode c_TT_recordSecond 21 = .ok (.istore_n 3, 1) := by decide +kernel
theorem d_TT_recordSecond_22 : decode c_TT_recordSecond 22 = .ok (.iload_n 3, 1) := by decide +kernel
theorem d_TT_recordSecond_23 : decode c_TT_recordSecond 23 = .ok (.iconst (-1), 1) := by decide +kernel
theorem d_TT_recordSecond_24 : decode c_TT_recordSecond 24 = .ok (.if_icmp .ne 15, 3) := by decide +kernel
theorem d_TT_recordSecond_27 : decode c_TT_recordSecond 27 = .ok (.aload_n 1, 1) := by decide +kernel
theorem d_TT_recordSecond_28 : decode c_TT_recordSecond 28 = .ok (.dup, 1) := by decide +kernel
theorem d_TT_recordSecond_29 : decode c_TT_recordSecond 29 = .ok (.getfield 147, 3) := by decide +kernel
theorem d_TT_recordSecond_32 : decode c_TT_recordSecond 32 = .ok (.iconst 1, 1) := by decide +kernel
theorem d_TT_recordSecond_33 : decode c_TT_recordSecond 33 = .ok (.iadd, 1) := by decide +kernel
theorem d_TT_recordSecond_34 : decode c_TT_recordSecond 34 = .ok (.putfield 147, 3) := by decide +kernel
theorem d_TT_recordSecond_37 : decode c_TT_recordSecond 37 = .ok (.iconst 0, 1) := by decide +kernel
theorem d_TT_recordSecond_38 : decode c_TT_recordSecond 38 = .ok (.ireturn, 1) := by decide +kernel
theorem d_TT_recordSecond_39 : decode c_TT_recordSecond 39 = .ok (.aload_n 0, 1) := by decide +kernel
theorem d_TT_recordSecond_40 : decode c_TT_recordSecond 40 = .ok (.getfield 29, 3) := by decide +kernel
theorem d_TT_recordSecond_43 : decode c_TT_recordSecond 43 = .ok (.iload_n 3, 1) := by decide +kernel
theorem d_TT_recordSecond_44 : decode c_TT_recordSecond 44 = .ok (.iload_n 2, 1) := by decide +kernel
theorem d_TT_recordSecond_45 : decode c_TT_recordSecond 45 = .ok (.iconst 4, 1) := by decide +kernel
theorem d_TT_recordSecond_46 : decode c_TT_recordSecond 46 = .ok (.irem, 1) := by decide +kernel
theorem d_TT_recordSecond_47 : decode c_TT_recordSecond 47 = .ok (.aload_n 0, 1) := by decide +kernel
theorem d_TT_recordSecond_48 : decode c_TT_recordSecond 48 = .ok (.getfield 15, 3) := by decide +kernel
theorem d_TT_recordSecond_51 : decode c_TT_recordSecond 51 = .ok (.aload_n 1, 1) := by decide +kernel
theorem d_TT_recordSecond_52 : decode c_TT_recordSecond 52 = .ok (.getfield 209, 3) := by decide +kernel
theorem d_TT_recordSecond_55 : decode c_TT_recordSecond 55 = .ok (.iaload, 1) := by decide +kernel
theorem d_TT_recordSecond_56 : decode c_TT_recordSecond 56 = .ok (.invokevirtual 231, 3) := by decide +kernel
theorem d_TT_recordSecond_59 : decode c_TT_recordSecond 59 = .ok (.iconst 1, 1) := by decide +kernel
theorem d_TT_recordSecond_60 : decode c_TT_recordSecond 60 = .ok (.ireturn, 1) := by decide +kernel
theorem d_TT_slotFor_0 : decode c_TT_slotFor 0 = .ok (.aload_n 0, 1) := by decide +kernel
theorem d_TT_slotFor_1 : decode c_TT_slotFor 1 = .ok (.getfield 29, 3) := by decide +kernel
theorem d_TT_slotFor_4 : decode c_TT_slotFor 4 = .ok (.iload_n 1, 1) := by decide +kernel
theorem d_TT_slotFor_5 : decode c_TT_slotFor 5 = .ok (.iload_n 2, 1) := by decide +kernel
theorem d_TT_slotFor_6 : decode c_TT_slotFor 6 = .ok (.invokevirtual 235, 3) := by decide +kernel
theorem d_TT_slotFor_9 : decode c_TT_slotFor 9 = .ok (.istore_n 3, 1) := by decide +kernel
theorem d_TT_slotFor_10 : decode c_TT_slotFor 10 = .ok (.iload_n 3, 1) := by decide +kernel
theorem d_TT_slotFor_11 : decode c_TT_slotFor 11 = .ok (.iconst (-1), 1) := by decide +kernel
theorem d_TT_slotFor_12 : decode c_TT_slotFor 12 = .ok (.if_icmp .eq 5, 3) := by decide +kernel
theorem d_TT_slotFor_15 : decode c_TT_slotFor 15 = .ok (.iload_n 3, 1) := by decide +kernel
theorem d_TT_slotFor_16 : decode c_TT_slotFor 16 = .ok (.ireturn, 1) := by decide +kernel
theorem d_TT_slotFor_17 : decode c_TT_slotFor 17 = .ok (.aload_n 0, 1) := by decide +kernel
theorem d_TT_slotFor_18 : decode c_TT_slotFor 18 = .ok (.getfield 29, 3) := by decide +kernel
theorem d_TT_slotFor_21 : decode c_TT_slotFor 21 = .ok (.invokevirtual 166, 3) := by decide +kernel
theorem d_TT_slotFor_24 : decode c_TT_slotFor 24 = .ok (.ifCond .ne 7, 3) := by decide +kernel
theorem d_TT_slotFor_27 : decode c_TT_slotFor 27 = .ok (.aload_n 0, 1) := by decide +kernel
theorem d_TT_slotFor_28 : decode c_TT_slotFor 28 = .ok (.invokevirtual 238, 3) := by decide +kernel
theorem d_TT_slotFor_31 : decode c_TT_slotFor 31 = .ok (.aload_n 0, 1) := by decide +kernel
theorem d_TT_slotFor_32 : decode c_TT_slotFor 32 = .ok (.getfield 29, 3) := by decide +kernel
theorem d_TT_slotFor_35 : decode c_TT_slotFor 35 = .ok (.iload_n 1, 1) := by decide +kernel
theorem d_TT_slotFor_36 : decode c_TT_slotFor 36 = .ok (.iload_n 2, 1) := by decide +kernel
theorem d_TT_slotFor_37 : decode c_TT_slotFor 37 = .ok (.invokevirtual 241, 3) := by decide +kernel
theorem d_TT_slotFor_40 : decode c_TT_slotFor 40 = .ok (.ireturn, 1) := by decide +kernel
theorem d_TT_tick_0 : decode c_TT_tick 0 = .ok (.aload_n 0, 1) := by decide +kernel
theorem d_TT_tick_1 : decode c_TT_tick 1 = .ok (.invokevirtual 121, 3) := by decide +kernel
theorem d_TT_tick_4 : decode c_TT_tick 4 = .ok (.istore_n 1, 1) := by decide +kernel
theorem d_TT_tick_5 : decode c_TT_tick 5 = .ok (.aload_n 0, 1) := by decide +kernel
theorem d_TT_tick_6 : decode c_TT_tick 6 = .ok (.iload_n 1, 1) := by decide +kernel
theorem d_TT_tick_7 : decode c_TT_tick 7 = .ok (.invokevirtual 124, 3) := by decide +kernel
theorem d_TT_tick_10 : decode c_TT_tick 10 = .ok (.pop, 1) := by decide +kernel
theorem d_TT_tick_11 : decode c_TT_tick 11 = .ok (.iload_n 1, 1) := by decide +kernel
theorem d_TT_tick_12 : decode c_TT_tick 12 = .ok (.ireturn, 1) := by decide +kernel
theorem d_TT_tune_0 : decode c_TT_tune 0 = .ok (.aload_n 0, 1) := by decide +kernel
theorem d_TT_tune_1 : decode c_TT_tune 1 = .ok (.getfield 22, 3) := by decide +kernel
theorem d_TT_tune_4 : decode c_TT_tune 4 = .ok (.aload_n 0, 1) := by decide +kernel
theorem d_TT_tune_5 : decode c_TT_tune 5 = .ok (.getfield 11, 3) := by decide +kernel
theorem d_TT_tune_8 : decode c_TT_tune 8 = .ok (.aload_n 0, 1) := by decide +kernel
theorem d_TT_tune_9 : decode c_TT_tune 9 = .ok (.getfield 40, 3) := by decide +kernel
theorem d_TT_tune_12 : decode c_TT_tune 12 = .ok (.aload_n 0, 1) := by decide +kernel
theorem d_TT_tune_13 : decode c_TT_tune 13 = .ok (.getfield 44, 3) := by decide +kernel
theorem d_TT_tune_16 : decode c_TT_tune 16 = .ok (.invokevirtual 97, 3) := by decide +kernel
theorem d_TT_tune_19 : decode c_TT_tune 19 = .ok (.iconst 0, 1) := by decide +kernel
theorem d_TT_tune_20 : decode c_TT_tune 20 = .ok (.istore_n 1, 1) := by decide +kernel
theorem d_TT_tune_21 : decode c_TT_tune 21 = .ok (.iconst 0, 1) := by decide +kernel
theorem d_TT_tune_22 : decode c_TT_tune 22 = .ok (.istore_n 2, 1) := by decide +kernel
theorem d_TT_tune_23 : decode c_TT_tune 23 = .ok (.iload_n 2, 1) := by decide +kernel
theorem d_TT_tune_24 : decode c_TT_tune 24 = .ok (.aload_n 0, 1) := by decide +kernel
theorem d_TT_tune_25 : decode c_TT_tune 25 = .ok (.getfield 40, 3) := by decide +kernel
theorem d_TT_tune_28 : decode c_TT_tune 28 = .ok (.if_icmp .ge 41, 3) := by decide +kernel
theorem d_TT_tune_31 : decode c_TT_tune 31 = .ok (.aload_n 0, 1) := by decide +kernel
theorem d_TT_tune_32 : decode c_TT_tune 32 = .ok (.getfield 11, 3) := by decide +kernel
theorem d_TT_tune_35 : decode c_TT_tune 35 = .ok (.iload_n 2, 1) := by decide +kernel
theorem d_TT_tune_36 : decode c_TT_tune 36 = .ok (.aaload, 1) := by decide +kernel
theorem d_TT_tune_37 : decode c_TT_tune 37 = .ok (.astore_n 3, 1) := by decide +kernel
theorem d_TT_tune_38 : decode c_TT_tune 38 = .ok (.aload_n 3, 1) := by decide +kernel
theorem d_TT_tune_39 : decode c_TT_tune 39 = .ok (.aload_n 0, 1) := by decide +kernel
theorem d_TT_tune_40 : decode c_TT_tune 40 = .ok (.getfield 44, 3) := by decide +kernel
theorem d_TT_tune_43 : decode c_TT_tune 43 = .ok (.invokevirtual 206, 3) := by decide +kernel
theorem d_TT_tune_46 : decode c_TT_tune 46 = .ok (.aload_n 3, 1) := by decide +kernel
theorem d_TT_tune_47 : decode c_TT_tune 47 = .ok (.getfield 90, 3) := by decide +kernel
theorem d_TT_tune_50 : decode c_TT_tune 50 = .ok (.iconst 1, 1) := by decide +kernel
theorem d_TT_tune_51 : decode c_TT_tune 51 = .ok (.if_icmp .ne 12, 3) := by decide +kernel
theorem d_TT_tune_54 : decode c_TT_tune 54 = .ok (.iload_n 1, 1) := by decide +kernel
theorem d_TT_tune_55 : decode c_TT_tune 55 = .ok (.iconst 1, 1) := by decide +kernel
theorem d_TT_tune_56 : decode c_TT_tune 56 = .ok (.aload_n 3, 1) := by decide +kernel
theorem d_TT_tune_57 : decode c_TT_tune 57 = .ok (.getfield 209, 3) := by decide +kernel
theorem d_TT_tune_60 : decode c_TT_tune 60 = .ok (.ishl, 1) := by decide +kernel
theorem d_TT_tune_61 : decode c_TT_tune 61 = .ok (.ior, 1) := by decide +kernel
theorem d_TT_tune_62 : decode c_TT_tune 62 = .ok (.istore_n 1, 1) := by decide +kernel
theorem d_TT_tune_63 : decode c_TT_tune 63 = .ok (.iinc 2 1, 3) := by decide +kernel
theorem d_TT_tune_66 : decode c_TT_tune 66 = .ok (.goto (-43), 3) := by decide +kernel
theorem d_TT_tune_69 : decode c_TT_tune 69 = .ok (.aload_n 0, 1) := by decide +kernel
theorem d_TT_tune_70 : decode c_TT_tune 70 = .ok (.getfield 47, 3) := by decide +kernel
theorem d_TT_tune_73 : decode c_TT_tune 73 = .ok (.iconst (-1), 1) := by decide +kernel
theorem d_TT_tune_74 : decode c_TT_tune 74 = .ok (.if_icmp .eq 20, 3) := by decide +kernel
theorem d_TT_tune_77 : decode c_TT_tune 77 = .ok (.iload_n 1, 1) := by decide +kernel
theorem d_TT_tune_78 : decode c_TT_tune 78 = .ok (.invokestatic 212, 3) := by decide +kernel
theorem d_TT_tune_81 : decode c_TT_tune 81 = .ok (.iconst 2, 1) := by decide +kernel
theorem d_TT_tune_82 : decode c_TT_tune 82 = .ok (.if_icmp .ge 12, 3) := by decide +kernel
theorem d_TT_tune_85 : decode c_TT_tune 85 = .ok (.iload_n 1, 1) := by decide +kernel
theorem d_TT_tune_86 : decode c_TT_tune 86 = .ok (.iconst 1, 1) := by decide +kernel
theorem d_TT_tune_87 : decode c_TT_tune 87 = .ok (.aload_n 0, 1) := by decide +kernel
theorem d_TT_tune_88 : decode c_TT_tune 88 = .ok (.getfield 47, 3) := by decide +kernel
theorem d_TT_tune_91 : decode c_TT_tune 91 = .ok (.ishl, 1) := by decide +kernel
theorem d_TT_tune_92 : decode c_TT_tune 92 = .ok (.ior, 1) := by decide +kernel
theorem d_TT_tune_93 : decode c_TT_tune 93 = .ok (.istore_n 1, 1) := by decide +kernel
theorem d_TT_tune_94 : decode c_TT_tune 94 = .ok (.iload_n 1, 1) := by decide +kernel
theorem d_TT_tune_95 : decode c_TT_tune 95 = .ok (.ireturn, 1) := by decide +kernel
theorem d_TT_wipe_0 : decode c_TT_wipe 0 = .ok (.aload_n 1, 1) := by decide +kernel
theorem d_TT_wipe_1 : decode c_TT_wipe 1 = .ok (.iconst 5, 1) := by decide +kernel
theorem d_TT_wipe_2 : decode c_TT_wipe 2 = .ok (.putfield 90, 3) := by decide +kernel
theorem d_TT_wipe_5 : decode c_TT_wipe 5 = .ok (.aload_n 1, 1) := by decide +kernel
theorem d_TT_wipe_6 : decode c_TT_wipe 6 = .ok (.iconst 0, 1) := by decide +kernel
theorem d_TT_wipe_7 : decode c_TT_wipe 7 = .ok (.putfield 153, 3) := by decide +kernel
theorem d_TT_wipe_10 : decode c_TT_wipe 10 = .ok (.aload_n 1, 1) := by decide +kernel
theorem d_TT_wipe_11 : decode c_TT_wipe 11 = .ok (.iconst 0, 1) := by decide +kernel
theorem d_TT_wipe_12 : decode c_TT_wipe 12 = .ok (.putfield 157, 3) := by decide +kernel
theorem d_TT_wipe_15 : decode c_TT_wipe 15 = .ok (.aload_n 1, 1) := by decide +kernel
theorem d_TT_wipe_16 : decode c_TT_wipe 16 = .ok (.iconst 0, 1) := by decide +kernel
theorem d_TT_wipe_17 : decode c_TT_wipe 17 = .ok (.putfield 174, 3) := by decide +kernel
theorem d_TT_wipe_20 : decode c_TT_wipe 20 = .ok (.aload_n 0, 1) := by decide +kernel
theorem d_TT_wipe_21 : decode c_TT_wipe 21 = .ok (.getfield 29, 3) := by decide +kernel
theorem d_TT_wipe_24 : decode c_TT_wipe 24 = .ok (.aload_n 1, 1) := by decide +kernel
theorem d_TT_wipe_25 : decode c_TT_wipe 25 = .ok (.getfield 137, 3) := by decide +kernel
theorem d_TT_wipe_28 : decode c_TT_wipe 28 = .ok (.invokevirtual 253, 3) := by decide +kernel
theorem d_TT_wipe_31 : decode c_TT_wipe 31 = .ok (.ireturn, 1) := by decide +kernel
section CmA
variable {N : Nat} {L : List Nat} {isA : Nat → Bool} {bk : Nat → Nat} {sc : Nat → Int32} {qa : Nat → Nat → Option Nat} {rf : Nat → Nat → Int32} {a i M : Nat}
theorem CI_od (h : CI N L isA bk sc qa rf) (e3 : sc 3 = nI M) (hM : M ≤ 12) : ∀ i, i < M → cG L isA (qa 1 i) := by
  obtain ⟨M', hM', e', hO⟩ := h.2.2.1
  have e : M' = M := by
    have h1 := ti_eq (e'.symm.trans e3)
    rw [nI_toInt (by omega), nI_toInt (by omega)] at h1
    omega
  subst e; exact hO
theorem CI_q1 (h : CI N L isA bk sc qa rf) (ha : a ∈ L) (hn : isA a = false) : CI N L isA bk sc (va_up qa 1 (va_up (qa 1) i (some a))) rf := by
  obtain ⟨a1, a2, ⟨M', hM', e', hO⟩, a4, a5, a6, a7⟩ := h
  refine ⟨a1, a2, ⟨M', hM', e', fun k hk => ?_⟩, a4, a5, a6, a7⟩
  show cG L isA (va_up (qa 1) i (some a) k)
  by_cases e : k = i
  · subst e; rw [va_up_self]; exact ⟨a, rfl, ha, hn⟩
  · rw [va_up_ne _ _ e]; exact hO k hk
theorem qa1_at : va_up qa 1 (va_up (qa 1) i (some a)) 1 i = some a := by
  show va_up (qa 1) i (some a) i = some a
  exact va_up_self _ _ _
theorem qa1_ne {k : Nat} (h : k ≠ i) : va_up qa 1 (va_up (qa 1) i (some a)) 1 k = qa 1 k := by
  show va_up (qa 1) i (some a) k = qa 1 k
  exact va_up_ne _ _ h
/-- the place behind the last is filled, if the gap is before it -/
def eG (L : List Nat) (isA : Nat → Bool) (M k : Nat) (od : Nat → Option Nat) : Prop := k < M → cG L isA (od M)
end CmA
set_option maxHeartbeats 8000000 in
set_option maxRecDepth 100000 in
theorem k_PL_enter (l : Launch) (dC : Nat → ClassId) (dI : Nat → Nat → Nat) (cd : Nat → Nat) (kI kQ : ClassId) (L : List Nat) (isA : Nat → Bool) (bk : Nat → Nat) (sc : Nat → Int32) (ia : Nat → Nat → Int32) (qa : Nat → Nat → Option Nat) (rf ba : Nat → Nat → Int32) (sz Bd : Nat) (N : Nat) (hC : CI N L isA bk sc qa rf) (a : Nat) (ha : a ∈ L) (hn : isA a = false)  : Met l y_PL_enter w_PL_enter ({ frames := 1, cells := 0, slots := 0, locals := 22 }) (frP (dC, dI) (CW cd kI kQ L isA bk sc ia qa rf ba) (CT kI kQ) sz Bd [.ref (cd 3), .ref a]) (tQ (dC, dI) (cW cd kI kQ L isA bk) (va_A (CW cd kI kQ L isA bk sc ia qa rf ba) sz) vN (fun r u => same [3] sc u.1 ∧ ia = u.2.1 ∧ ba = u.2.2.2.2 ∧ CI N L isA bk u.1 u.2.2.1 u.2.2.2.1)) 0 0 (va_A (CW cd kI kQ L isA bk sc ia qa rf ba) sz) := by
  refine Met.ofW (cc := c_PL_enter) (maxL := 3) (ret := none) (by decide) rfl ?_
  intro p e s m args below meth c s₁ B hml hv
  obtain ⟨rfl, ⟨hsz, hBs⟩, hP, hK, hD0, hV⟩ := hv
  have hx := B.exec
  have hb := B.bytes
  have hr := B.returns
  have ht : ∀ w ∈ tb_, w.before _ s = true := fun w h => atoms_spec (ws := w_PL_enter) B.pre w (List.mem_cons_of_mem _ h)
  have hown : s.vm.findClass R_PL = some m.cls := findClass_of_methodNamed B.named
  have hlocks := B.notSynchronized
  subst hsz
  have hD := hD0.self (sz := s.heap.size)
  have hAB : ∀ q, va_A (CW cd kI kQ L isA bk sc ia qa rf ba) s.heap.size q → Bd ≤ q := fr_AB hD0 hBs
  generalize hAe : va_A (CW cd kI kQ L isA bk sc ia qa rf ba) s.heap.size = A at hD hAB ⊢
  have hA : ∀ q : Nat, s.heap.size ≤ q → A q := fun q h => by rw [← hAe]; exact Or.inr h
  have hS : va_S A s.heap s.heap [] := va_S.rf
  have hs : same [3] sc sc := same.rf
  have hP : va_P (dC, dI) cls_ (CW cd kI kQ L isA bk sc ia qa rf ba) s.heap := hP
  have hl := lv_entry ([.ref (cd 3), .ref a]) (n := 3) (Nat.le_of_ble_eq_true rfl)
  rw [lg_entry_eq]
  generalize (lg_sl ([.ref (cd 3), .ref a]) ++ List.replicate (3 - (lg_sl ([.ref (cd 3), .ref a])).length) Slot.unset).toArray = ls at hl ⊢
  have hl : lv_has ls 3 [(0, .ref (cd 3)), (1, .ref a)] := hl
  have hN := hC.1.1
  obtain ⟨M, hM, e3, hO⟩ := hC.2.2.1
  refine lv_aload_n hx hb d_PL_enter_0 rfl (lv_at hl 0 rfl) ?_
  refine va_get (D := (dC, dI)) (ci := 1) (v := .int (sc 3)) (C := R_PL) (T := F_PL) (N := 2) hx hb ht in_PL hown hK hP 3 rfl rfl 1 (by decide) (ht _ tb_33) (fun _ h9 => h9) rfl d_PL_enter_1 ?_
  refine W.eq (g2 := F0 m 4 ls [.int (nI M)]) (by rw [show sc 3 = nI M from e3]) ?_
  refine lv_bipush (v := 12) hx hb d_PL_enter_4 (by decide) ?_
  refine lv_icmp_lt (tgt := 10) hx hb d_PL_enter_6 (by decide) (fun h6_1 => ?_) (fun h6_1 => ?_)
  · have h6_1 := h6_1
    have i6_1 := ti_lt h6_1
    (try rw [nI_toInt (show M < 2 ^ 31 by omega)] at i6_1)
    (try rw [l_12] at i6_1)
    refine lv_aload_n hx hb d_PL_enter_10 rfl (lv_at hl 1 rfl) ?_
    refine lv_iconst (v := 0) hx hb d_PL_enter_11 (by decide) ?_
    refine lv_iconst (v := 0) hx hb d_PL_enter_12 (by decide) ?_
    obtain ⟨kq, hkq⟩ := pq_at (X := CX cd kI kQ sc ia qa) (kI := kI) (bk := bk) (rf := rf) (ba := ba) ha hn
    refine t_call (u0 := (sc, ia, qa, rf, ba)) (va_runV (C := R_RQ) (As := [.int 0, .int 0]) (rest := []) ⟨hx, hb, hml, hown, ht⟩ (k_RQ_takeStretch l dC dI cd kI kQ L isA bk sc ia qa rf ba s.heap.size Bd N hC a ha hn 0 0) (cwV 2 ht (gV tb_120 tb_121 tb_122 tb_11 tb_123) rfl rfl rfl (by decide +kernel) ⟨Nat.le_of_ble_eq_true rfl, Nat.le_of_ble_eq_true rfl⟩) ⟨frP_blind, va_recv (q := (R_RQ, F_RQ, 17)) hK hP rfl hkq, fr_pre hP hK hD hAB hBs hS hV⟩ rfl rfl hl.1 rfl (lv_room (Nat.le_of_ble_eq_true rfl)) d_PL_enter_13 ⟨Nat.le_of_ble_eq_true rfl, Nat.le_of_ble_eq_true rfl⟩) hD hS hA (fun r1 u H locs hu hP hD hS => ?_)
    obtain ⟨sc2, ia3, qa4, rf5, ba6⟩ := u
    obtain ⟨hu1_0, hu1_1, hu1_2, hu1_3, hu1_4⟩ := hu
    have hu1_0 : sc = sc2 := hu1_0
    have hu1_1 : ia = ia3 := hu1_1
    have hu1_2 : qa = qa4 := hu1_2
    have hu1_3 : ba = ba6 := hu1_3
    have hu1_4 : CI N L isA bk sc2 qa4 rf5 := hu1_4
    subst hu1_0
    subst hu1_1
    subst hu1_2
    subst hu1_3
    have hP : va_P (dC, dI) cls_ (CW cd kI kQ L isA bk sc ia qa rf5 ba) H := hP
    have hD : va_D A (CW cd kI kQ L isA bk sc ia qa rf5 ba) := hD
    have hC : CI N L isA bk sc qa rf5 := hu1_4
    refine W.eq (g2 := F0 m 16 ls []) rfl ?_
    refine W.cs (cells' := 0) (slots' := 0) rfl rfl ?_
    refine lv_aload_n hx hb d_PL_enter_16 rfl (lv_at hl 0 rfl) ?_
    refine va_get (D := (dC, dI)) (ci := 1) (v := .int (sc 3)) (C := R_PL) (T := F_PL) (N := 2) hx hb ht in_PL hown hK hP 3 rfl rfl 1 (by decide) (ht _ tb_33) (fun _ h9 => h9) rfl d_PL_enter_17 ?_
    refine W.eq (g2 := F0 m 20 ls [.int (nI M)]) (by rw [show sc 3 = nI M from e3]) ?_
    refine lv_istore_n hx hb d_PL_enter_20 rfl hl (by decide) rfl (fun ls hl => ?_)
    have hl : lv_has ls 3 [(2, .int (nI M)), (0, .ref (cd 3)), (1, .ref a)] := hl
    have J_21 : ∀ (n_21 : Nat) (k : Nat) (qa_21 : Nat → Nat → Option Nat) (H : Heap) (locs : List Loc) (ls : Array Slot), k < n_21 → k ≤ M → CI N L isA bk sc qa_21 rf5 → eG L isA M k (qa_21 1) → lv_has ls 3 [(2, .int (nI k)), (1, .ref a), (0, .ref (cd 3))] → va_P (dC, dI) cls_ (CW cd kI kQ L isA bk sc ia qa_21 rf5 ba) H → va_D A (CW cd kI kQ L isA bk sc ia qa_21 rf5 ba) → va_S A s.heap H locs → W p l e (headSpec w_PL_enter ({ frames := 1, cells := 0, slots := 0, locals := 22 })).room s m (([.ref (cd 3), .ref a] : List Value).toArray) below meth c H locs 0 0 (MQ below (tQ (dC, dI) (cW cd kI kQ L isA bk) A vN (fun r u => same [3] sc u.1 ∧ ia = u.2.1 ∧ ba = u.2.2.2.2 ∧ CI N L isA bk u.1 u.2.2.1 u.2.2.2.1)) (([.ref (cd 3), .ref a] : List Value).toArray) s 0 0 A) (F0 m 21 ls []) := by
      intro n_21
      induction n_21 with
      | zero => intro k qa_21 H locs ls hmu hc21_0 hC hE hl hP hD hS; exact absurd hmu (by omega)
      | succ n_21 ih_21 =>
        intro k qa_21 H locs ls hmu hc21_0 hC hE hl hP hD hS
        refine lv_iload_n hx hb d_PL_enter_21 rfl (lv_at hl 0 rfl) ?_
        refine lv_if_le (tgt := 63) hx hb d_PL_enter_22 (by decide) (fun h22_2 => ?_) (fun h22_2 => ?_)
        · have h22_2 := h22_2
          have i22_2 := ti_le h22_2
          (try rw [nI_toInt (show k < 2 ^ 31 by omega)] at i22_2)
          (try rw [l_0] at i22_2)
          have J_63 : ∀   (H : Heap) (locs : List Loc) (ls : Array Slot), lv_has ls 3 [(2, .int (nI k)), (1, .ref a), (0, .ref (cd 3))] → va_P (dC, dI) cls_ (CW cd kI kQ L isA bk sc ia qa_21 rf5 ba) H → va_D A (CW cd kI kQ L isA bk sc ia qa_21 rf5 ba) → va_S A s.heap H locs → W p l e (headSpec w_PL_enter ({ frames := 1, cells := 0, slots := 0, locals := 22 })).room s m (([.ref (cd 3), .ref a] : List Value).toArray) below meth c H locs 0 0 (MQ below (tQ (dC, dI) (cW cd kI kQ L isA bk) A vN (fun r u => same [3] sc u.1 ∧ ia = u.2.1 ∧ ba = u.2.2.2.2 ∧ CI N L isA bk u.1 u.2.2.1 u.2.2.2.1)) (([.ref (cd 3), .ref a] : List Value).toArray) s 0 0 A) (F0 m 63 ls []) := by
            intro H locs ls hl hP hD hS
            refine lv_aload_n hx hb d_PL_enter_63 rfl (lv_at hl 2 rfl) ?_
            refine va_get (D := (dC, dI)) (ci := 1) (v := .ref (cd 4)) (C := R_PL) (T := F_PL) (N := 2) hx hb ht in_PL hown hK hP 3 rfl rfl 0 (by decide) (ht _ tb_32) (fun _ h9 => h9) rfl d_PL_enter_64 ?_
            refine lv_iload_n hx hb d_PL_enter_67 rfl (lv_at hl 0 rfl) ?_
            refine lv_aload_n hx hb d_PL_enter_68 rfl (lv_at hl 1 rfl) ?_
            obtain ⟨kq, hkq⟩ := pq_at (X := CX cd kI kQ sc ia qa_21) (kI := kI) (bk := bk) (rf := rf5) (ba := ba) ha hn
            refine va_astq (r := (R_RQ, F_RQ, 17)) hx hb hK hP hD hS 4 1 kq 4 rfl rfl hkq rfl (vp_in_nI (show k < 12 by omega) (by decide)) d_PL_enter_69 (fun H locs hP hD hS => ?_)
            rw [nI_clamp (show k < 2 ^ 31 by omega)] at hP hD
            have hP : va_P (dC, dI) cls_ (CW cd kI kQ L isA bk sc ia (va_up qa_21 1 (va_up (qa_21 1) k (some a))) rf5 ba) H := hP
            have hD : va_D A (CW cd kI kQ L isA bk sc ia (va_up qa_21 1 (va_up (qa_21 1) k (some a))) rf5 ba) := hD
            obtain ⟨qa7, eqa7⟩ : ∃ q9_, q9_ = va_up qa_21 1 (va_up (qa_21 1) k (some a)) := ⟨_, rfl⟩
            rw [← eqa7] at hP hD
            have hC : CI N L isA bk sc qa7 rf5 := by rw [eqa7]; exact CI_q1 hC ha hn
            have hE8 : cG L isA (qa7 1 M) := by rw [eqa7]; by_cases e9 : M = k; { rw [e9, qa1_at]; exact ⟨a, rfl, ha, hn⟩ }; { rw [qa1_ne e9]; exact hE (by omega) }
            refine lv_aload_n hx hb d_PL_enter_70 rfl (lv_at hl 2 rfl) ?_
            refine lv_dup hx hb d_PL_enter_71 rfl ?_
            refine va_get (D := (dC, dI)) (ci := 1) (v := .int (sc 3)) (C := R_PL) (T := F_PL) (N := 2) hx hb ht in_PL hown hK hP 3 rfl rfl 1 (by decide) (ht _ tb_33) (fun _ h9 => h9) rfl d_PL_enter_72 ?_
            refine W.eq (g2 := F0 m 75 ls [.int (nI M), .ref (cd 3)]) (by rw [show sc 3 = nI M from e3]) ?_
            refine lv_iconst (v := 1) hx hb d_PL_enter_75 (by decide) ?_
            refine lv_iadd hx hb d_PL_enter_76 ?_
            refine lv_topi (fun v8 ev8 => ?_)
            obtain rfl : v8 = nI (M + 1) := ev8.trans (by rw [show (1 : Int32) = nI 1 from rfl, nI_add])
            refine va_put (D := (dC, dI)) (ci := 1) (v := .int (nI (M + 1))) (ty := .int) (C := R_PL) (T := F_PL) (N := 2) hx hb ht in_PL t_PL t_PL_ok n_PL hown hK hP hD hS 3 rfl rfl 1 (by decide) (ht _ tb_33) (fun _ h9 => h9) rfl (by decide +kernel) rfl rfl (Nat.le_of_ble_eq_true rfl) d_PL_enter_77 (fun H locs hP hD hS => ?_)
            have hP : va_P (dC, dI) cls_ (CW cd kI kQ L isA bk (va_up sc 3 (nI (M + 1))) ia qa7 rf5 ba) H := hP
            have hD : va_D A (CW cd kI kQ L isA bk (va_up sc 3 (nI (M + 1))) ia qa7 rf5 ba) := hD
            obtain ⟨sc9, esc9⟩ : ∃ q9_, q9_ = va_up sc 3 (nI (M + 1)) := ⟨_, rfl⟩
            rw [← esc9] at hP hD
            have hs : same [3] sc sc9 := by rw [esc9]; exact hs.up (by decide)
            have hC : CI N L isA bk sc9 qa7 rf5 := by rw [esc9]; exact CI_s3 hC ⟨M + 1, by omega, rfl, fun i hi9 => by by_cases e9 : i = M; { rw [e9]; exact hE8 }; { exact CI_od hC e3 (by omega) i (by omega) }⟩
            exact W.vret hx hb hr (fun t ht9 hW => ⟨⟨(), (sc9, ia, qa7, rf5, ba), rfl, ⟨hs, rfl, rfl, hC⟩, by rw [ht9]; exact hP, hD⟩, hS.F ht9⟩) hS.2.2 d_PL_enter_80
          exact J_63 H _ ls hl hP hD hS
        · have h22_2 := h22_2
          have i22_2 := ti_nle h22_2
          (try rw [nI_toInt (show k < 2 ^ 31 by omega)] at i22_2)
          (try rw [l_0] at i22_2)
          refine lv_aload_n hx hb d_PL_enter_25 rfl (lv_at hl 2 rfl) ?_
          refine va_get (D := (dC, dI)) (ci := 1) (v := .ref (cd 4)) (C := R_PL) (T := F_PL) (N := 2) hx hb ht in_PL hown hK hP 3 rfl rfl 0 (by decide) (ht _ tb_32) (fun _ h9 => h9) rfl d_PL_enter_26 ?_
          refine lv_iload_n hx hb d_PL_enter_29 rfl (lv_at hl 0 rfl) ?_
          refine lv_iconst (v := 1) hx hb d_PL_enter_30 (by decide) ?_
          refine lv_isub hx hb d_PL_enter_31 ?_
          refine lv_topi (fun v10 ev10 => ?_)
          obtain rfl : v10 = nI (k - 1) := ev10.trans (by rw [show (1 : Int32) = nI 1 from rfl, pk_sub (show 1 ≤ k by omega)])
          refine va_aldq (C := "TwinTuners$Request") hx hb hK hP 4 1 rfl rfl (vp_in_nI (show k - 1 < 12 by omega) (by decide)) d_PL_enter_32 ?_
          obtain ⟨a11, ea11, haa11, hna11⟩ := CI_od hC e3 hM (k - 1) (by omega)
          refine W.eq (g2 := F0 m 33 ls [.ref a11]) (by rw [nI_clamp (show k - 1 < 2 ^ 31 by omega), ea11]; rfl) ?_
          obtain ⟨kq, hkq⟩ := pq_at (X := CX cd kI kQ sc ia qa_21) (kI := kI) (bk := bk) (rf := rf5) (ba := ba) haa11 hna11
          refine va_get (D := (dC, dI)) (ci := 4) (v := .int (rf5 a11 4)) (C := R_RQ) (T := F_RQ) (N := 17) hx hb ht in_RQ hown hK hP kq hkq rfl 4 (by decide) (ht _ tb_384) (fun _ h9 => h9) rfl d_PL_enter_33 ?_
          refine lv_aload_n hx hb d_PL_enter_36 rfl (lv_at hl 1 rfl) ?_
          obtain ⟨kq, hkq⟩ := pq_at (X := CX cd kI kQ sc ia qa_21) (kI := kI) (bk := bk) (rf := rf5) (ba := ba) ha hn
          refine va_get (D := (dC, dI)) (ci := 4) (v := .int (rf5 a 4)) (C := R_RQ) (T := F_RQ) (N := 17) hx hb ht in_RQ hown hK hP kq hkq rfl 4 (by decide) (ht _ tb_384) (fun _ h9 => h9) rfl d_PL_enter_37 ?_
          refine lv_icmp_ge (tgt := 63) hx hb d_PL_enter_40 (by decide) (fun h40_3 => ?_) (fun h40_3 => ?_)
          · have h40_3 := h40_3
            have i40_3 := ti_le h40_3
            have J_63 : ∀   (H : Heap) (locs : List Loc) (ls : Array Slot), lv_has ls 3 [(2, .int (nI k)), (1, .ref a), (0, .ref (cd 3))] → va_P (dC, dI) cls_ (CW cd kI kQ L isA bk sc ia qa_21 rf5 ba) H → va_D A (CW cd kI kQ L isA bk sc ia qa_21 rf5 ba) → va_S A s.heap H locs → W p l e (headSpec w_PL_enter ({ frames := 1, cells := 0, slots := 0, locals := 22 })).room s m (([.ref (cd 3), .ref a] : List Value).toArray) below meth c H locs 0 0 (MQ below (tQ (dC, dI) (cW cd kI kQ L isA bk) A vN (fun r u => same [3] sc u.1 ∧ ia = u.2.1 ∧ ba = u.2.2.2.2 ∧ CI N L isA bk u.1 u.2.2.1 u.2.2.2.1)) (([.ref (cd 3), .ref a] : List Value).toArray) s 0 0 A) (F0 m 63 ls []) := by
              intro H locs ls hl hP hD hS
              refine lv_aload_n hx hb d_PL_enter_63 rfl (lv_at hl 2 rfl) ?_
              refine va_get (D := (dC, dI)) (ci := 1) (v := .ref (cd 4)) (C := R_PL) (T := F_PL) (N := 2) hx hb ht in_PL hown hK hP 3 rfl rfl 0 (by decide) (ht _ tb_32) (fun _ h9 => h9) rfl d_PL_enter_64 ?_
              refine lv_iload_n hx hb d_PL_enter_67 rfl (lv_at hl 0 rfl) ?_
              refine lv_aload_n hx hb d_PL_enter_68 rfl (lv_at hl 1 rfl) ?_
              obtain ⟨kq, hkq⟩ := pq_at (X := CX cd kI kQ sc ia qa_21) (kI := kI) (bk := bk) (rf := rf5) (ba := ba) ha hn
              refine va_astq (r := (R_RQ, F_RQ, 17)) hx hb hK hP hD hS 4 1 kq 4 rfl rfl hkq rfl (vp_in_nI (show k < 12 by omega) (by decide)) d_PL_enter_69 (fun H locs hP hD hS => ?_)
              rw [nI_clamp (show k < 2 ^ 31 by omega)] at hP hD
              have hP : va_P (dC, dI) cls_ (CW cd kI kQ L isA bk sc ia (va_up qa_21 1 (va_up (qa_21 1) k (some a))) rf5 ba) H := hP
              have hD : va_D A (CW cd kI kQ L isA bk sc ia (va_up qa_21 1 (va_up (qa_21 1) k (some a))) rf5 ba) := hD
              obtain ⟨qa12, eqa12⟩ : ∃ q9_, q9_ = va_up qa_21 1 (va_up (qa_21 1) k (some a)) := ⟨_, rfl⟩
              rw [← eqa12] at hP hD
              have hC : CI N L isA bk sc qa12 rf5 := by rw [eqa12]; exact CI_q1 hC ha hn
              have hE8 : cG L isA (qa12 1 M) := by rw [eqa12]; by_cases e9 : M = k; { rw [e9, qa1_at]; exact ⟨a, rfl, ha, hn⟩ }; { rw [qa1_ne e9]; exact hE (by omega) }
              refine lv_aload_n hx hb d_PL_enter_70 rfl (lv_at hl 2 rfl) ?_
              refine lv_dup hx hb d_PL_enter_71 rfl ?_
              refine va_get (D := (dC, dI)) (ci := 1) (v := .int (sc 3)) (C := R_PL) (T := F_PL) (N := 2) hx hb ht in_PL hown hK hP 3 rfl rfl 1 (by decide) (ht _ tb_33) (fun _ h9 => h9) rfl d_PL_enter_72 ?_
              refine W.eq (g2 := F0 m 75 ls [.int (nI M), .ref (cd 3)]) (by rw [show sc 3 = nI M from e3]) ?_
              refine lv_iconst (v := 1) hx hb d_PL_enter_75 (by decide) ?_
              refine lv_iadd hx hb d_PL_enter_76 ?_
              refine lv_topi (fun v13 ev13 => ?_)
              obtain rfl : v13 = nI (M + 1) := ev13.trans (by rw [show (1 : Int32) = nI 1 from rfl, nI_add])
              refine va_put (D := (dC, dI)) (ci := 1) (v := .int (nI (M + 1))) (ty := .int) (C := R_PL) (T := F_PL) (N := 2) hx hb ht in_PL t_PL t_PL_ok n_PL hown hK hP hD hS 3 rfl rfl 1 (by decide) (ht _ tb_33) (fun _ h9 => h9) rfl (by decide +kernel) rfl rfl (Nat.le_of_ble_eq_true rfl) d_PL_enter_77 (fun H locs hP hD hS => ?_)
              have hP : va_P (dC, dI) cls_ (CW cd kI kQ L isA bk (va_up sc 3 (nI (M + 1))) ia qa12 rf5 ba) H := hP
              have hD : va_D A (CW cd kI kQ L isA bk (va_up sc 3 (nI (M + 1))) ia qa12 rf5 ba) := hD
              obtain ⟨sc14, esc14⟩ : ∃ q9_, q9_ = va_up sc 3 (nI (M + 1)) := ⟨_, rfl⟩
              rw [← esc14] at hP hD
              have hs : same [3] sc sc14 := by rw [esc14]; exact hs.up (by decide)
              have hC : CI N L isA bk sc14 qa12 rf5 := by rw [esc14]; exact CI_s3 hC ⟨M + 1, by omega, rfl, fun i hi9 => by by_cases e9 : i = M; { rw [e9]; exact hE8 }; { exact CI_od hC e3 (by omega) i (by omega) }⟩
              exact W.vret hx hb hr (fun t ht9 hW => ⟨⟨(), (sc14, ia, qa12, rf5, ba), rfl, ⟨hs, rfl, rfl, hC⟩, by rw [ht9]; exact hP, hD⟩, hS.F ht9⟩) hS.2.2 d_PL_enter_80
            exact J_63 H _ ls hl hP hD hS
          · have h40_3 := h40_3
            have i40_3 := ti_nle h40_3
            refine lv_aload_n hx hb d_PL_enter_43 rfl (lv_at hl 2 rfl) ?_
            refine va_get (D := (dC, dI)) (ci := 1) (v := .ref (cd 4)) (C := R_PL) (T := F_PL) (N := 2) hx hb ht in_PL hown hK hP 3 rfl rfl 0 (by decide) (ht _ tb_32) (fun _ h9 => h9) rfl d_PL_enter_44 ?_
            refine lv_iload_n hx hb d_PL_enter_47 rfl (lv_at hl 0 rfl) ?_
            refine lv_aload_n hx hb d_PL_enter_48 rfl (lv_at hl 2 rfl) ?_
            refine va_get (D := (dC, dI)) (ci := 1) (v := .ref (cd 4)) (C := R_PL) (T := F_PL) (N := 2) hx hb ht in_PL hown hK hP 3 rfl rfl 0 (by decide) (ht _ tb_32) (fun _ h9 => h9) rfl d_PL_enter_49 ?_
            refine lv_iload_n hx hb d_PL_enter_52 rfl (lv_at hl 0 rfl) ?_
            refine lv_iconst (v := 1) hx hb d_PL_enter_53 (by decide) ?_
            refine lv_isub hx hb d_PL_enter_54 ?_
            refine lv_topi (fun v15 ev15 => ?_)
            obtain rfl : v15 = nI (k - 1) := ev15.trans (by rw [show (1 : Int32) = nI 1 from rfl, pk_sub (show 1 ≤ k by omega)])
            refine va_aldq (C := "TwinTuners$Request") hx hb hK hP 4 1 rfl rfl (vp_in_nI (show k - 1 < 12 by omega) (by decide)) d_PL_enter_55 ?_
            obtain ⟨a16, ea16, haa16, hna16⟩ := CI_od hC e3 hM (k - 1) (by omega)
            refine W.eq (g2 := F0 m 56 ls [.ref a16, .int (nI k), .ref (cd 4)]) (by rw [nI_clamp (show k - 1 < 2 ^ 31 by omega), ea16]; rfl) ?_
            obtain ⟨kq, hkq⟩ := pq_at (X := CX cd kI kQ sc ia qa_21) (kI := kI) (bk := bk) (rf := rf5) (ba := ba) haa16 hna16
            refine va_astq (r := (R_RQ, F_RQ, 17)) hx hb hK hP hD hS 4 1 kq 4 rfl rfl hkq rfl (vp_in_nI (show k < 12 by omega) (by decide)) d_PL_enter_56 (fun H locs hP hD hS => ?_)
            rw [nI_clamp (show k < 2 ^ 31 by omega)] at hP hD
            have hP : va_P (dC, dI) cls_ (CW cd kI kQ L isA bk sc ia (va_up qa_21 1 (va_up (qa_21 1) k (some a16))) rf5 ba) H := hP
            have hD : va_D A (CW cd kI kQ L isA bk sc ia (va_up qa_21 1 (va_up (qa_21 1) k (some a16))) rf5 ba) := hD
            obtain ⟨qa17, eqa17⟩ : ∃ q9_, q9_ = va_up qa_21 1 (va_up (qa_21 1) k (some a16)) := ⟨_, rfl⟩
            rw [← eqa17] at hP hD
            have hC : CI N L isA bk sc qa17 rf5 := by rw [eqa17]; exact CI_q1 hC haa16 hna16
            have hE9 : eG L isA M (k - 1) (qa17 1) := fun h9 => by rw [eqa17]; by_cases e9 : M = k; { rw [e9, qa1_at]; exact ⟨a16, rfl, haa16, hna16⟩ }; { rw [qa1_ne e9]; exact hE (by omega) }
            refine lv_iinc (k := 0) (v := nI (k - 1)) hx hb d_PL_enter_57 hl rfl (show nI k + (-1) = nI (k - 1) from by obtain ⟨q, rfl⟩ : ∃ q, k = q + 1 := ⟨k - 1, by omega⟩; exact pk_m1 q) (by decide) rfl (fun ls hl => ?_)
            have hl : lv_has ls 3 [(2, .int (nI (k - 1))), (1, .ref a), (0, .ref (cd 3))] := hl
            refine lv_goto (tgt := 21) hx hb d_PL_enter_60 (by decide) ?_
            exact ih_21 (k - 1) qa17 H _ ls (by omega) (by omega) hC (hE9) hl hP hD hS
    have hl := lv_sub hl [0, 2, 1] (l' := [(2, .int (nI M)), (1, .ref a), (0, .ref (cd 3))]) rfl
    exact J_21 (M + 1) M qa H _ ls (by omega) (by omega) hC (fun h9 => absurd h9 (by omega)) hl hP hD hS
  · have h6_1 := h6_1
    have i6_1 := ti_nlt h6_1
    (try rw [nI_toInt (show M < 2 ^ 31 by omega)] at i6_1)
    (try rw [l_12] at i6_1)
    exact W.vret hx hb hr (fun t ht9 hW => ⟨⟨(), (sc, ia, qa, rf, ba), rfl, ⟨hs, rfl, rfl, hC⟩, by rw [ht9]; exact hP, hD⟩, hS.F ht9⟩) hS.2.2 d_PL_enter_9
set_option maxHeartbeats 8000000 in
set_option maxRecDepth 100000 in
theorem k_PL_make (l : Launch) (dC : Nat → ClassId) (dI : Nat → Nat → Nat) (cd : Nat → Nat) (kI kQ : ClassId) (L : List Nat) (isA : Nat → Bool) (bk : Nat → Nat) (sc : Nat → Int32) (ia : Nat → Nat → Int32) (qa : Nat → Nat → Option Nat) (rf ba : Nat → Nat → Int32) (sz Bd : Nat) (N : Nat) (hC : CI N L isA bk sc qa rf) (x : Int32) : Met l y_PL_make w_PL_make ({ frames := 5, cells := 0, slots := 0, locals := 116 }) (frP (dC, dI) (CW cd kI kQ L isA bk sc ia qa rf ba) (CT kI kQ) sz Bd [.ref (cd 3), .ref (cd 1), .int (nI N), .int x]) (tQ (dC, dI) (cW cd kI kQ L isA bk) (va_A (CW cd kI kQ L isA bk sc ia qa rf ba) sz) vN (fun r u => same [3] sc u.1 ∧ ia = u.2.1 ∧ ba = u.2.2.2.2 ∧ CI N L isA bk u.1 u.2.2.1 u.2.2.2.1)) 0 0 (va_A (CW cd kI kQ L isA bk sc ia qa rf ba) sz) := by
  refine Met.ofW (cc := c_PL_make) (maxL := 5) (ret := none) (by decide) rfl ?_
  intro p e s m args below meth c s₁ B hml hv
  obtain ⟨rfl, ⟨hsz, hBs⟩, hP, hK, hD0, hV⟩ := hv
  have hx := B.exec
  have hb := B.bytes
  have hr := B.returns
  have ht : ∀ w ∈ tb_, w.before _ s = true := fun w h => atoms_spec (ws := w_PL_make) B.pre w (List.mem_cons_of_mem _ h)
  have hown : s.vm.findClass R_PL = some m.cls := findClass_of_methodNamed B.named
  have hlocks := B.notSynchronized
  subst hsz
  have hD := hD0.self (sz := s.heap.size)
  have hAB : ∀ q, va_A (CW cd kI kQ L isA bk sc ia qa rf ba) s.heap.size q → Bd ≤ q := fr_AB hD0 hBs
  generalize hAe : va_A (CW cd kI kQ L isA bk sc ia qa rf ba) s.heap.size = A at hD hAB ⊢
  have hA : ∀ q : Nat, s.heap.size ≤ q → A q := fun q h => by rw [← hAe]; exact Or.inr h
  have hS : va_S A s.heap s.heap [] := va_S.rf
  have hs : same [3] sc sc := same.rf
  have hP : va_P (dC, dI) cls_ (CW cd kI kQ L isA bk sc ia qa rf ba) s.heap := hP
  have hl := lv_entry ([.ref (cd 3), .ref (cd 1), .int (nI N), .int x]) (n := 5) (Nat.le_of_ble_eq_true rfl)
  rw [lg_entry_eq]
  generalize (lg_sl ([.ref (cd 3), .ref (cd 1), .int (nI N), .int x]) ++ List.replicate (5 - (lg_sl ([.ref (cd 3), .ref (cd 1), .int (nI N), .int x])).length) Slot.unset).toArray = ls at hl ⊢
  have hl : lv_has ls 5 [(0, .ref (cd 3)), (1, .ref (cd 1)), (2, .int (nI N)), (3, .int x)] := hl
  have hN := hC.1.1
  refine lv_aload_n hx hb d_PL_make_0 rfl (lv_at hl 0 rfl) ?_
  refine lv_iconst (v := 0) hx hb d_PL_make_1 (by decide) ?_
  refine va_put (D := (dC, dI)) (ci := 1) (v := .int 0) (ty := .int) (C := R_PL) (T := F_PL) (N := 2) hx hb ht in_PL t_PL t_PL_ok n_PL hown hK hP hD hS 3 rfl rfl 1 (by decide) (ht _ tb_33) (fun _ h9 => h9) rfl (by decide +kernel) rfl rfl (Nat.le_of_ble_eq_true rfl) d_PL_make_2 (fun H locs hP hD hS => ?_)
  have hP : va_P (dC, dI) cls_ (CW cd kI kQ L isA bk (va_up sc 3 0) ia qa rf ba) H := hP
  have hD : va_D A (CW cd kI kQ L isA bk (va_up sc 3 0) ia qa rf ba) := hD
  obtain ⟨sc1, esc1⟩ : ∃ q9_, q9_ = va_up sc 3 0 := ⟨_, rfl⟩
  rw [← esc1] at hP hD
  have hs : same [3] sc sc1 := by rw [esc1]; exact hs.up (by decide)
  have hC : CI N L isA bk sc1 qa rf := by rw [esc1]; exact CI_s3 hC ⟨0, by omega, by rw [nI_0], fun i h9 => absurd h9 (by omega)⟩
  refine lv_iconst (v := 0) hx hb d_PL_make_5 (by decide) ?_
  refine lv_istore hx hb d_PL_make_6 hl (by decide) rfl (fun ls hl => ?_)
  have hl : lv_has ls 5 [(4, .int 0), (0, .ref (cd 3)), (1, .ref (cd 1)), (2, .int (nI N)), (3, .int x)] := hl
  have J_8 : ∀ (n_8 : Nat) (k : Nat) (sc_8 : Nat → Int32) (qa_8 : Nat → Nat → Option Nat) (rf_8 : Nat → Nat → Int32) (H : Heap) (locs : List Loc) (ls : Array Slot), N - k < n_8 → k ≤ N → same [3] sc sc_8 → CI N L isA bk sc_8 qa_8 rf_8 → lv_has ls 5 [(4, .int (nI k)), (3, .int x), (2, .int (nI N)), (1, .ref (cd 1)), (0, .ref (cd 3))] → va_P (dC, dI) cls_ (CW cd kI kQ L isA bk sc_8 ia qa_8 rf_8 ba) H → va_D A (CW cd kI kQ L isA bk sc_8 ia qa_8 rf_8 ba) → va_S A s.heap H locs → W p l e (headSpec w_PL_make ({ frames := 5, cells := 0, slots := 0, locals := 116 })).room s m (([.ref (cd 3), .ref (cd 1), .int (nI N), .int x] : List Value).toArray) below meth c H locs 0 0 (MQ below (tQ (dC, dI) (cW cd kI kQ L isA bk) A vN (fun r u => same [3] sc u.1 ∧ ia = u.2.1 ∧ ba = u.2.2.2.2 ∧ CI N L isA bk u.1 u.2.2.1 u.2.2.2.1)) (([.ref (cd 3), .ref (cd 1), .int (nI N), .int x] : List Value).toArray) s 0 0 A) (F0 m 8 ls []) := by
    intro n_8
    induction n_8 with
    | zero => intro k sc_8 qa_8 rf_8 H locs ls hmu hc8_0 hs hC hl hP hD hS; exact absurd hmu (by omega)
    | succ n_8 ih_8 =>
      intro k sc_8 qa_8 rf_8 H locs ls hmu hc8_0 hs hC hl hP hD hS
      refine lv_iload hx hb d_PL_make_8 (lv_at hl 0 rfl) ?_
      refine lv_iload_n hx hb d_PL_make_10 rfl (lv_at hl 2 rfl) ?_
      refine lv_icmp_ge (tgt := 38) hx hb d_PL_make_11 (by decide) (fun h11_1 => ?_) (fun h11_1 => ?_)
      · have h11_1 := h11_1
        have i11_1 := ti_le h11_1
        (try rw [nI_toInt (show k < 2 ^ 31 by omega)] at i11_1)
        (try rw [nI_toInt (show N < 2 ^ 31 by omega)] at i11_1)
        refine lv_aload_n hx hb d_PL_make_38 rfl (lv_at hl 4 rfl) ?_
        refine lv_iload_n hx hb d_PL_make_39 rfl (lv_at hl 1 rfl) ?_
        refine t_call (u0 := (sc_8, ia, qa_8, rf_8, ba)) (va_runV (C := R_PL) (As := [.int x]) (rest := []) ⟨hx, hb, hml, hown, ht⟩ (k_PL_takeRunning l dC dI cd kI kQ L isA bk sc_8 ia qa_8 rf_8 ba H.size Bd N hC x) (cwV 1 ht (gV tb_124 tb_126 ts_2 tb_2 tb_127) rfl rfl rfl (by decide +kernel) ⟨Nat.le_of_ble_eq_true rfl, Nat.le_of_ble_eq_true rfl⟩) ⟨frP_blind, va_recv (q := (R_PL, F_PL, 2)) hK hP rfl (show (CW cd kI kQ L isA bk sc_8 ia qa_8 rf_8 ba : va_W)[3]? = some _ from rfl), fr_pre hP hK hD hAB hBs hS hV⟩ rfl rfl hl.1 rfl (lv_room (Nat.le_of_ble_eq_true rfl)) d_PL_make_40 ⟨Nat.le_of_ble_eq_true rfl, Nat.le_of_ble_eq_true rfl⟩) hD hS hA (fun r2 u H locs hu hP hD hS => ?_)
        obtain ⟨sc3, ia4, qa5, rf6, ba7⟩ := u
        obtain ⟨hu2_0, hu2_1, hu2_2, hu2_3, hu2_4⟩ := hu
        have hu2_0 : sc_8 = sc3 := hu2_0
        have hu2_1 : ia = ia4 := hu2_1
        have hu2_2 : qa_8 = qa5 := hu2_2
        have hu2_3 : ba = ba7 := hu2_3
        have hu2_4 : CI N L isA bk sc3 qa5 rf6 := hu2_4
        subst hu2_0
        subst hu2_1
        subst hu2_2
        subst hu2_3
        have hP : va_P (dC, dI) cls_ (CW cd kI kQ L isA bk sc_8 ia qa_8 rf6 ba) H := hP
        have hD : va_D A (CW cd kI kQ L isA bk sc_8 ia qa_8 rf6 ba) := hD
        have hC : CI N L isA bk sc_8 qa_8 rf6 := hu2_4
        refine W.eq (g2 := F0 m 43 ls []) rfl ?_
        refine W.cs (cells' := 0) (slots' := 0) rfl rfl ?_
        refine lv_aload_n hx hb d_PL_make_43 rfl (lv_at hl 4 rfl) ?_
        refine t_call (u0 := (sc_8, ia, qa_8, rf6, ba)) (va_runV (C := R_PL) (As := []) (rest := []) ⟨hx, hb, hml, hown, ht⟩ (k_PL_takeCores l dC dI cd kI kQ L isA bk sc_8 ia qa_8 rf6 ba H.size Bd N hC) (cwV 0 ht (gV tb_128 tb_130 ts_3 tb_2 tb_131) rfl rfl rfl (by decide +kernel) ⟨Nat.le_of_ble_eq_true rfl, Nat.le_of_ble_eq_true rfl⟩) ⟨frP_blind, va_recv (q := (R_PL, F_PL, 2)) hK hP rfl (show (CW cd kI kQ L isA bk sc_8 ia qa_8 rf6 ba : va_W)[3]? = some _ from rfl), fr_pre hP hK hD hAB hBs hS hV⟩ rfl rfl hl.1 rfl (lv_room (Nat.le_of_ble_eq_true rfl)) d_PL_make_44 ⟨Nat.le_of_ble_eq_true rfl, Nat.le_of_ble_eq_true rfl⟩) hD hS hA (fun r8 u H locs hu hP hD hS => ?_)
        obtain ⟨sc9, ia10, qa11, rf12, ba13⟩ := u
        obtain ⟨hu8_0, hu8_1, hu8_2, hu8_3, hu8_4⟩ := hu
        have hu8_0 : sc_8 = sc9 := hu8_0
        have hu8_1 : ia = ia10 := hu8_1
        have hu8_2 : qa_8 = qa11 := hu8_2
        have hu8_3 : ba = ba13 := hu8_3
        have hu8_4 : CI N L isA bk sc9 qa11 rf12 := hu8_4
        subst hu8_0
        subst hu8_1
        subst hu8_2
        subst hu8_3
        have hP : va_P (dC, dI) cls_ (CW cd kI kQ L isA bk sc_8 ia qa_8 rf12 ba) H := hP
        have hD : va_D A (CW cd kI kQ L isA bk sc_8 ia qa_8 rf12 ba) := hD
        have hC : CI N L isA bk sc_8 qa_8 rf12 := hu8_4
        refine W.eq (g2 := F0 m 47 ls []) rfl ?_
        refine W.cs (cells' := 0) (slots' := 0) rfl rfl ?_
        refine lv_aload_n hx hb d_PL_make_47 rfl (lv_at hl 4 rfl) ?_
        refine lv_iload_n hx hb d_PL_make_48 rfl (lv_at hl 1 rfl) ?_
        refine t_call (u0 := (sc_8, ia, qa_8, rf12, ba)) (va_runV (C := R_PL) (As := [.int x]) (rest := []) ⟨hx, hb, hml, hown, ht⟩ (k_PL_padRunning l dC dI cd kI kQ L isA bk sc_8 ia qa_8 rf12 ba H.size Bd N hC x) (cwV 1 ht (gV tb_146 tb_148 ts_6 tb_2 tb_149) rfl rfl rfl (by decide +kernel) ⟨Nat.le_of_ble_eq_true rfl, Nat.le_of_ble_eq_true rfl⟩) ⟨frP_blind, va_recv (q := (R_PL, F_PL, 2)) hK hP rfl (show (CW cd kI kQ L isA bk sc_8 ia qa_8 rf12 ba : va_W)[3]? = some _ from rfl), fr_pre hP hK hD hAB hBs hS hV⟩ rfl rfl hl.1 rfl (lv_room (Nat.le_of_ble_eq_true rfl)) d_PL_make_49 ⟨Nat.le_of_ble_eq_true rfl, Nat.le_of_ble_eq_true rfl⟩) hD hS hA (fun r14 u H locs hu hP hD hS => ?_)
        obtain ⟨sc15, ia16, qa17, rf18, ba19⟩ := u
        obtain ⟨hu14_0, hu14_1, hu14_2, hu14_3, hu14_4⟩ := hu
        have hu14_0 : sc_8 = sc15 := hu14_0
        have hu14_1 : ia = ia16 := hu14_1
        have hu14_2 : qa_8 = qa17 := hu14_2
        have hu14_3 : ba = ba19 := hu14_3
        have hu14_4 : CI N L isA bk sc15 qa17 rf18 := hu14_4
        subst hu14_0
        subst hu14_1
        subst hu14_2
        subst hu14_3
        have hP : va_P (dC, dI) cls_ (CW cd kI kQ L isA bk sc_8 ia qa_8 rf18 ba) H := hP
        have hD : va_D A (CW cd kI kQ L isA bk sc_8 ia qa_8 rf18 ba) := hD
        have hC : CI N L isA bk sc_8 qa_8 rf18 := hu14_4
        refine W.eq (g2 := F0 m 52 ls []) rfl ?_
        refine W.cs (cells' := 0) (slots' := 0) rfl rfl ?_
        refine lv_aload_n hx hb d_PL_make_52 rfl (lv_at hl 4 rfl) ?_
        refine lv_iload_n hx hb d_PL_make_53 rfl (lv_at hl 1 rfl) ?_
        refine t_call (u0 := (sc_8, ia, qa_8, rf18, ba)) (va_runV (C := R_PL) (As := [.int x]) (rest := []) ⟨hx, hb, hml, hown, ht⟩ (k_PL_padWaiting l dC dI cd kI kQ L isA bk sc_8 ia qa_8 rf18 ba H.size Bd N hC x) (cwV 1 ht (gV tb_154 tb_156 ts_8 tb_2 tb_157) rfl rfl rfl (by decide +kernel) ⟨Nat.le_of_ble_eq_true rfl, Nat.le_of_ble_eq_true rfl⟩) ⟨frP_blind, va_recv (q := (R_PL, F_PL, 2)) hK hP rfl (show (CW cd kI kQ L isA bk sc_8 ia qa_8 rf18 ba : va_W)[3]? = some _ from rfl), fr_pre hP hK hD hAB hBs hS hV⟩ rfl rfl hl.1 rfl (lv_room (Nat.le_of_ble_eq_true rfl)) d_PL_make_54 ⟨Nat.le_of_ble_eq_true rfl, Nat.le_of_ble_eq_true rfl⟩) hD hS hA (fun r20 u H locs hu hP hD hS => ?_)
        obtain ⟨sc21, ia22, qa23, rf24, ba25⟩ := u
        obtain ⟨hu20_0, hu20_1, hu20_2, hu20_3, hu20_4⟩ := hu
        have hu20_0 : sc_8 = sc21 := hu20_0
        have hu20_1 : ia = ia22 := hu20_1
        have hu20_2 : qa_8 = qa23 := hu20_2
        have hu20_3 : ba = ba25 := hu20_3
        have hu20_4 : CI N L isA bk sc21 qa23 rf24 := hu20_4
        subst hu20_0
        subst hu20_1
        subst hu20_2
        subst hu20_3
        have hP : va_P (dC, dI) cls_ (CW cd kI kQ L isA bk sc_8 ia qa_8 rf24 ba) H := hP
        have hD : va_D A (CW cd kI kQ L isA bk sc_8 ia qa_8 rf24 ba) := hD
        have hC : CI N L isA bk sc_8 qa_8 rf24 := hu20_4
        refine W.eq (g2 := F0 m 57 ls []) rfl ?_
        refine W.cs (cells' := 0) (slots' := 0) rfl rfl ?_
        exact W.vret hx hb hr (fun t ht9 hW => ⟨⟨(), (sc_8, ia, qa_8, rf24, ba), rfl, ⟨hs, rfl, rfl, hC⟩, by rw [ht9]; exact hP, hD⟩, hS.F ht9⟩) hS.2.2 d_PL_make_57
      · have h11_1 := h11_1
        have i11_1 := ti_nle h11_1
        (try rw [nI_toInt (show k < 2 ^ 31 by omega)] at i11_1)
        (try rw [nI_toInt (show N < 2 ^ 31 by omega)] at i11_1)
        refine lv_aload_n hx hb d_PL_make_14 rfl (lv_at hl 3 rfl) ?_
        refine lv_iload hx hb d_PL_make_15 (lv_at hl 0 rfl) ?_
        refine va_aldq (C := "TwinTuners$Request") hx hb hK hP 1 1 rfl rfl (vp_in_nI (show k < 40 by omega) (by decide)) d_PL_make_17 ?_
        obtain ⟨a26, ea26, haa26, hna26⟩ := hC.2.2.2.2.2.1 k (by omega)
        refine W.eq (g2 := F0 m 18 ls [.ref a26]) (by rw [nI_clamp (show k < 2 ^ 31 by omega), ea26]; rfl) ?_
        obtain ⟨kq, hkq⟩ := pq_at (X := CX cd kI kQ sc_8 ia qa_8) (kI := kI) (bk := bk) (rf := rf_8) (ba := ba) haa26 hna26
        refine r_call (va_runV (C := R_RQ) (As := []) (rest := []) ⟨hx, hb, hml, hown, ht⟩ (k_RQ_isOpen l dC dI cd kI kQ L isA bk sc_8 ia qa_8 rf_8 ba N hC a26 haa26 hna26) (cwV 0 ht (gV tb_112 tb_113 tb_114 tb_11 tb_115) rfl rfl rfl (by decide +kernel) ⟨Nat.le_of_ble_eq_true rfl, Nat.le_of_ble_eq_true rfl⟩) ⟨rdP_blind, va_recv (q := (R_RQ, F_RQ, 17)) hK hP rfl hkq, rd_pre hP hK⟩ rfl rfl hl.1 rfl (lv_room (Nat.le_of_ble_eq_true rfl)) d_PL_make_18 ⟨Nat.le_of_ble_eq_true rfl, Nat.le_of_ble_eq_true rfl⟩) (fun r27 hu => ?_)
        clear hu
        refine W.eq (g2 := F0 m 21 ls [.int r27]) rfl ?_
        refine lv_if_eq (tgt := 32) hx hb d_PL_make_21 (by decide) (fun h21_2 => ?_) (fun h21_2 => ?_)
        · have h21_2 := h21_2
          have i21_2 := ti_eq h21_2
          (try rw [l_0] at i21_2)
          refine lv_iinc (k := 0) (v := nI (k + 1)) hx hb d_PL_make_32 hl rfl ((nI_succ k).symm) (by decide) rfl (fun ls hl => ?_)
          have hl : lv_has ls 5 [(4, .int (nI (k + 1))), (3, .int x), (2, .int (nI N)), (1, .ref (cd 1)), (0, .ref (cd 3))] := hl
          refine lv_goto (tgt := 8) hx hb d_PL_make_35 (by decide) ?_
          exact ih_8 (k + 1) sc_8 qa_8 rf_8 H _ ls (by omega) (by omega) hs hC hl hP hD hS
        · have h21_2 := h21_2
          have i21_2 := ti_ne h21_2
          (try rw [l_0] at i21_2)
          refine lv_aload_n hx hb d_PL_make_24 rfl (lv_at hl 4 rfl) ?_
          refine lv_aload_n hx hb d_PL_make_25 rfl (lv_at hl 3 rfl) ?_
          refine lv_iload hx hb d_PL_make_26 (lv_at hl 0 rfl) ?_
          refine va_aldq (C := "TwinTuners$Request") hx hb hK hP 1 1 rfl rfl (vp_in_nI (show k < 40 by omega) (by decide)) d_PL_make_28 ?_
          obtain ⟨a28, ea28, haa28, hna28⟩ := hC.2.2.2.2.2.1 k (by omega)
          refine W.eq (g2 := F0 m 29 ls [.ref a28, .ref (cd 3)]) (by rw [nI_clamp (show k < 2 ^ 31 by omega), ea28]; rfl) ?_
          refine t_call (u0 := (sc_8, ia, qa_8, rf_8, ba)) (va_runV (C := R_PL) (As := [.ref a28]) (rest := []) ⟨hx, hb, hml, hown, ht⟩ (k_PL_enter l dC dI cd kI kQ L isA bk sc_8 ia qa_8 rf_8 ba H.size Bd N hC a28 haa28 hna28) (cwV 1 ht (gV tb_116 tb_118 ts_1 tb_2 tb_119) rfl rfl rfl (by decide +kernel) ⟨Nat.le_of_ble_eq_true rfl, Nat.le_of_ble_eq_true rfl⟩) ⟨frP_blind, va_recv (q := (R_PL, F_PL, 2)) hK hP rfl (show (CW cd kI kQ L isA bk sc_8 ia qa_8 rf_8 ba : va_W)[3]? = some _ from rfl), fr_pre hP hK hD hAB hBs hS hV⟩ rfl rfl hl.1 rfl (lv_room (Nat.le_of_ble_eq_true rfl)) d_PL_make_29 ⟨Nat.le_of_ble_eq_true rfl, Nat.le_of_ble_eq_true rfl⟩) hD hS hA (fun r29 u H locs hu hP hD hS => ?_)
          obtain ⟨sc30, ia31, qa32, rf33, ba34⟩ := u
          obtain ⟨hu29_0, hu29_1, hu29_2, hu29_3⟩ := hu
          have hu29_0 : same [3] sc_8 sc30 := hu29_0
          have hu29_1 : ia = ia31 := hu29_1
          have hu29_2 : ba = ba34 := hu29_2
          have hu29_3 : CI N L isA bk sc30 qa32 rf33 := hu29_3
          subst hu29_1
          subst hu29_2
          have hu29_0 : same [3] sc_8 sc30 := hu29_0
          have hP : va_P (dC, dI) cls_ (CW cd kI kQ L isA bk sc30 ia qa32 rf33 ba) H := hP
          have hD : va_D A (CW cd kI kQ L isA bk sc30 ia qa32 rf33 ba) := hD
          have hC : CI N L isA bk sc30 qa32 rf33 := hu29_3
          have hs : same [3] sc sc30 := hs.tr (hu29_0.wk (by decide))
          refine W.eq (g2 := F0 m 32 ls []) rfl ?_
          refine W.cs (cells' := 0) (slots' := 0) rfl rfl ?_
          refine lv_iinc (k := 0) (v := nI (k + 1)) hx hb d_PL_make_32 hl rfl ((nI_succ k).symm) (by decide) rfl (fun ls hl => ?_)
          have hl : lv_has ls 5 [(4, .int (nI (k + 1))), (3, .int x), (2, .int (nI N)), (1, .ref (cd 1)), (0, .ref (cd 3))] := hl
          refine lv_goto (tgt := 8) hx hb d_PL_make_35 (by decide) ?_
          exact ih_8 (k + 1) sc30 qa32 rf33 H _ ls (by omega) (by omega) hs hC hl hP hD hS
  have hl := lv_sub hl [0, 4, 3, 2, 1] (l' := [(4, .int 0), (3, .int x), (2, .int (nI N)), (1, .ref (cd 1)), (0, .ref (cd 3))]) rfl
  have hl : lv_has ls 5 [(4, .int (nI 0)), (3, .int x), (2, .int (nI N)), (1, .ref (cd 1)), (0, .ref (cd 3))] := hl
  exact J_8 ((N - 0) + 1) 0 sc1 qa rf H _ ls (by omega) (by omega) hs hC hl hP hD hS
set_option maxHeartbeats 8000000 in
set_option maxRecDepth 100000 in
theorem k_TT_tune (l : Launch) (dC : Nat → ClassId) (dI : Nat → Nat → Nat) (cd : Nat → Nat) (kI kQ : ClassId) (L : List Nat) (isA : Nat → Bool) (bk : Nat → Nat) (sc : Nat → Int32) (ia : Nat → Nat → Int32) (qa : Nat → Nat → Option Nat) (rf ba : Nat → Nat → Int32) (sz Bd : Nat) (N : Nat) (hC : CI N L isA bk sc qa rf)  : Met l y_TT_tune w_TT_tune ({ frames := 6, cells := 0, slots := 0, locals := 140 }) (frP (dC, dI) (CW cd kI kQ L isA bk sc ia qa rf ba) (CT kI kQ) sz Bd [.ref (cd 0)]) (tQ (dC, dI) (cW cd kI kQ L isA bk) (va_A (CW cd kI kQ L isA bk sc ia qa rf ba) sz) vI (fun r u => same [3] sc u.1 ∧ ia = u.2.1 ∧ ba = u.2.2.2.2 ∧ CI N L isA bk u.1 u.2.2.1 u.2.2.2.1)) 0 0 (va_A (CW cd kI kQ L isA bk sc ia qa rf ba) sz) := by
  refine Met.ofW (cc := c_TT_tune) (maxL := 4) (ret := (some .int)) (by decide) rfl ?_
  intro p e s m args below meth c s₁ B hml hv
  obtain ⟨rfl, ⟨hsz, hBs⟩, hP, hK, hD0, hV⟩ := hv
  have hx := B.exec
  have hb := B.bytes
  have hr := B.returns
  have ht : ∀ w ∈ tb_, w.before _ s = true := fun w h => atoms_spec (ws := w_TT_tune) B.pre w (List.mem_cons_of_mem _ h)
  have hown : s.vm.findClass R_TT = some m.cls := findClass_of_methodNamed B.named
  have hlocks := B.notSynchronized
  subst hsz
  have hD := hD0.self (sz := s.heap.size)
  have hAB : ∀ q, va_A (CW cd kI kQ L isA bk sc ia qa rf ba) s.heap.size q → Bd ≤ q := fr_AB hD0 hBs
  generalize hAe : va_A (CW cd kI kQ L isA bk sc ia qa rf ba) s.heap.size = A at hD hAB ⊢
  have hA : ∀ q : Nat, s.heap.size ≤ q → A q := fun q h => by rw [← hAe]; exact Or.inr h
  have hS : va_S A s.heap s.heap [] := va_S.rf
  have hs : same [3] sc sc := same.rf
  have hP : va_P (dC, dI) cls_ (CW cd kI kQ L isA bk sc ia qa rf ba) s.heap := hP
  have hl := lv_entry ([.ref (cd 0)]) (n := 4) (Nat.le_of_ble_eq_true rfl)
  rw [lg_entry_eq]
  generalize (lg_sl ([.ref (cd 0)]) ++ List.replicate (4 - (lg_sl ([.ref (cd 0)])).length) Slot.unset).toArray = ls at hl ⊢
  have hl : lv_has ls 4 [(0, .ref (cd 0))] := hl
  have hN := hC.1.1
  refine lv_aload_n hx hb d_TT_tune_0 rfl (lv_at hl 0 rfl) ?_
  refine va_get (D := (dC, dI)) (ci := 0) (v := .ref (cd 3)) (C := R_TT) (T := F_TT) (N := 8) hx hb ht in_TT hown hK hP 0 rfl rfl 2 (by decide) (ht _ tb_77) (fun _ h9 => h9) rfl d_TT_tune_1 ?_
  refine lv_aload_n hx hb d_TT_tune_4 rfl (lv_at hl 0 rfl) ?_
  refine va_get (D := (dC, dI)) (ci := 0) (v := .ref (cd 1)) (C := R_TT) (T := F_TT) (N := 8) hx hb ht in_TT hown hK hP 0 rfl rfl 0 (by decide) (ht _ tb_75) (fun _ h9 => h9) rfl d_TT_tune_5 ?_
  refine lv_aload_n hx hb d_TT_tune_8 rfl (lv_at hl 0 rfl) ?_
  refine va_get (D := (dC, dI)) (ci := 0) (v := .int (sc 0)) (C := R_TT) (T := F_TT) (N := 8) hx hb ht in_TT hown hK hP 0 rfl rfl 5 (by decide) (ht _ tb_80) (fun _ h9 => h9) rfl d_TT_tune_9 ?_
  refine W.eq (g2 := F0 m 12 ls [.int (nI N), .ref (cd 1), .ref (cd 3)]) (by rw [show sc 0 = nI N from hC.1.2]) ?_
  refine lv_aload_n hx hb d_TT_tune_12 rfl (lv_at hl 0 rfl) ?_
  refine va_get (D := (dC, dI)) (ci := 0) (v := .int (sc 1)) (C := R_TT) (T := F_TT) (N := 8) hx hb ht in_TT hown hK hP 0 rfl rfl 6 (by decide) (ht _ tb_81) (fun _ h9 => h9) rfl d_TT_tune_13 ?_
  refine t_call (u0 := (sc, ia, qa, rf, ba)) (va_runV (C := R_PL) (As := [.ref (cd 1), .int (nI N), .int (sc 1)]) (rest := []) ⟨hx, hb, hml, hown, ht⟩ (k_PL_make l dC dI cd kI kQ L isA bk sc ia qa rf ba s.heap.size Bd N hC (sc 1)) (cwV 3 ht (gV tb_108 tb_109 tb_110 tb_2 tb_111) rfl rfl rfl (by decide +kernel) ⟨Nat.le_of_ble_eq_true rfl, Nat.le_of_ble_eq_true rfl⟩) ⟨frP_blind, va_recv (q := (R_PL, F_PL, 2)) hK hP rfl (show (CW cd kI kQ L isA bk sc ia qa rf ba : va_W)[3]? = some _ from rfl), fr_pre hP hK hD hAB hBs hS hV⟩ rfl rfl hl.1 rfl (lv_room (Nat.le_of_ble_eq_true rfl)) d_TT_tune_16 ⟨Nat.le_of_ble_eq_true rfl, Nat.le_of_ble_eq_true rfl⟩) hD hS hA (fun r1 u H locs hu hP hD hS => ?_)
  obtain ⟨sc2, ia3, qa4, rf5, ba6⟩ := u
  obtain ⟨hu1_0, hu1_1, hu1_2, hu1_3⟩ := hu
  have hu1_0 : same [3] sc sc2 := hu1_0
  have hu1_1 : ia = ia3 := hu1_1
  have hu1_2 : ba = ba6 := hu1_2
  have hu1_3 : CI N L isA bk sc2 qa4 rf5 := hu1_3
  subst hu1_1
  subst hu1_2
  have hu1_0 : same [3] sc sc2 := hu1_0
  have hP : va_P (dC, dI) cls_ (CW cd kI kQ L isA bk sc2 ia qa4 rf5 ba) H := hP
  have hD : va_D A (CW cd kI kQ L isA bk sc2 ia qa4 rf5 ba) := hD
  have hC : CI N L isA bk sc2 qa4 rf5 := hu1_3
  have hs : same [3] sc sc2 := hs.tr (hu1_0.wk (by decide))
  refine W.eq (g2 := F0 m 19 ls []) rfl ?_
  refine W.cs (cells' := 0) (slots' := 0) rfl rfl ?_
  refine lv_iconst (v := 0) hx hb d_TT_tune_19 (by decide) ?_
  refine lv_istore_n hx hb d_TT_tune_20 rfl hl (by decide) rfl (fun ls hl => ?_)
  have hl : lv_has ls 4 [(1, .int 0), (0, .ref (cd 0))] := hl
  refine lv_iconst (v := 0) hx hb d_TT_tune_21 (by decide) ?_
  refine lv_istore_n hx hb d_TT_tune_22 rfl hl (by decide) rfl (fun ls hl => ?_)
  have hl : lv_has ls 4 [(2, .int 0), (1, .int 0), (0, .ref (cd 0))] := hl
  have J_23 : ∀ (n_23 : Nat) (k : Nat) (q : Int32) (rf_23 : Nat → Nat → Int32) (H : Heap) (locs : List Loc) (ls : Array Slot), N - k < n_23 → k ≤ N → CI N L isA bk sc2 qa4 rf_23 → lv_has ls 4 [(2, .int (nI k)), (1, .int q), (0, .ref (cd 0))] → va_P (dC, dI) cls_ (CW cd kI kQ L isA bk sc2 ia qa4 rf_23 ba) H → va_D A (CW cd kI kQ L isA bk sc2 ia qa4 rf_23 ba) → va_S A s.heap H locs → W p l e (headSpec w_TT_tune ({ frames := 6, cells := 0, slots := 0, locals := 140 })).room s m (([.ref (cd 0)] : List Value).toArray) below meth c H locs 0 0 (MQ below (tQ (dC, dI) (cW cd kI kQ L isA bk) A vI (fun r u => same [3] sc u.1 ∧ ia = u.2.1 ∧ ba = u.2.2.2.2 ∧ CI N L isA bk u.1 u.2.2.1 u.2.2.2.1)) (([.ref (cd 0)] : List Value).toArray) s 0 0 A) (F0 m 23 ls []) := by
    intro n_23
    induction n_23 with
    | zero => intro k q rf_23 H locs ls hmu hc23_0 hC hl hP hD hS; exact absurd hmu (by omega)
    | succ n_23 ih_23 =>
      intro k q rf_23 H locs ls hmu hc23_0 hC hl hP hD hS
      refine lv_iload_n hx hb d_TT_tune_23 rfl (lv_at hl 0 rfl) ?_
      refine lv_aload_n hx hb d_TT_tune_24 rfl (lv_at hl 2 rfl) ?_
      refine va_get (D := (dC, dI)) (ci := 0) (v := .int (sc2 0)) (C := R_TT) (T := F_TT) (N := 8) hx hb ht in_TT hown hK hP 0 rfl rfl 5 (by decide) (ht _ tb_80) (fun _ h9 => h9) rfl d_TT_tune_25 ?_
      refine W.eq (g2 := F0 m 28 ls [.int (nI N), .int (nI k)]) (by rw [show sc2 0 = nI N from hC.1.2]) ?_
      refine lv_icmp_ge (tgt := 69) hx hb d_TT_tune_28 (by decide) (fun h28_1 => ?_) (fun h28_1 => ?_)
      · have h28_1 := h28_1
        have i28_1 := ti_le h28_1
        (try rw [nI_toInt (show k < 2 ^ 31 by omega)] at i28_1)
        (try rw [nI_toInt (show N < 2 ^ 31 by omega)] at i28_1)
        refine lv_aload_n hx hb d_TT_tune_69 rfl (lv_at hl 2 rfl) ?_
        refine va_get (D := (dC, dI)) (ci := 0) (v := .int (sc2 2)) (C := R_TT) (T := F_TT) (N := 8) hx hb ht in_TT hown hK hP 0 rfl rfl 7 (by decide) (ht _ tb_82) (fun _ h9 => h9) rfl d_TT_tune_70 ?_
        refine lv_iconst (v := -1) hx hb d_TT_tune_73 (by decide) ?_
        refine lv_icmp_eq (tgt := 94) hx hb d_TT_tune_74 (by decide) (fun h74_2 => ?_) (fun h74_2 => ?_)
        · have h74_2 := h74_2
          have i74_2 := ti_eq h74_2
          (try rw [l_m1] at i74_2)
          refine lv_iload_n hx hb d_TT_tune_94 rfl (lv_at hl 1 rfl) ?_
          exact W.iret (v := q) hx hb hr (fun t ht9 hW => ⟨⟨q, (sc2, ia, qa4, rf_23, ba), rfl, ⟨hs, rfl, rfl, hC⟩, by rw [ht9]; exact hP, hD⟩, hS.F ht9⟩) hS.2.2 d_TT_tune_95
        · have h74_2 := h74_2
          have i74_2 := ti_ne h74_2
          (try rw [l_m1] at i74_2)
          refine lv_iload_n hx hb d_TT_tune_77 rfl (lv_at hl 1 rfl) ?_
          refine r_call (va_runS (As := [.int q]) (rest := []) ⟨hx, hb, hml, hown, ht⟩ (k_JI_bitCount l dC dI q) (va_cwS 1 ht (gS tb_171 tb_141 tb_13 tb_142) rfl rfl rfl (by decide +kernel) ⟨Nat.le_of_ble_eq_true rfl, Nat.le_of_ble_eq_true rfl⟩) ⟨rdP_blind, rd_pre (W0 := []) (tys := []) (fun k q h => by cases h) ⟨hK.1, fun k q h => by cases h⟩⟩ rfl rfl hl.1 rfl (lv_room (Nat.le_of_ble_eq_true rfl)) d_TT_tune_78 ⟨Nat.le_of_ble_eq_true rfl, Nat.le_of_ble_eq_true rfl⟩) (fun r7 hu => ?_)
          clear hu
          refine W.eq (g2 := F0 m 81 ls [.int r7]) rfl ?_
          refine lv_iconst (v := 2) hx hb d_TT_tune_81 (by decide) ?_
          refine lv_icmp_ge (tgt := 94) hx hb d_TT_tune_82 (by decide) (fun h82_3 => ?_) (fun h82_3 => ?_)
          · have h82_3 := h82_3
            have i82_3 := ti_le h82_3
            (try rw [l_2] at i82_3)
            refine lv_iload_n hx hb d_TT_tune_94 rfl (lv_at hl 1 rfl) ?_
            exact W.iret (v := q) hx hb hr (fun t ht9 hW => ⟨⟨q, (sc2, ia, qa4, rf_23, ba), rfl, ⟨hs, rfl, rfl, hC⟩, by rw [ht9]; exact hP, hD⟩, hS.F ht9⟩) hS.2.2 d_TT_tune_95
          · have h82_3 := h82_3
            have i82_3 := ti_nle h82_3
            (try rw [l_2] at i82_3)
            refine lv_iload_n hx hb d_TT_tune_85 rfl (lv_at hl 1 rfl) ?_
            refine lv_iconst (v := 1) hx hb d_TT_tune_86 (by decide) ?_
            refine lv_aload_n hx hb d_TT_tune_87 rfl (lv_at hl 2 rfl) ?_
            refine va_get (D := (dC, dI)) (ci := 0) (v := .int (sc2 2)) (C := R_TT) (T := F_TT) (N := 8) hx hb ht in_TT hown hK hP 0 rfl rfl 7 (by decide) (ht _ tb_82) (fun _ h9 => h9) rfl d_TT_tune_88 ?_
            refine lv_ishl hx hb d_TT_tune_91 ?_
            refine lv_topi (fun z8 _ => ?_)
            refine lv_ior hx hb d_TT_tune_92 ?_
            refine lv_istore_n hx hb d_TT_tune_93 rfl hl (by decide) rfl (fun ls hl => ?_)
            have hl : lv_has ls 4 [(1, .int (q ||| z8)), (2, .int (nI k)), (0, .ref (cd 0))] := hl
            refine lv_iload_n hx hb d_TT_tune_94 rfl (lv_at hl 0 rfl) ?_
            exact W.iret (v := q ||| z8) hx hb hr (fun t ht9 hW => ⟨⟨q ||| z8, (sc2, ia, qa4, rf_23, ba), rfl, ⟨hs, rfl, rfl, hC⟩, by rw [ht9]; exact hP, hD⟩, hS.F ht9⟩) hS.2.2 d_TT_tune_95
      · have h28_1 := h28_1
        have i28_1 := ti_nle h28_1
        (try rw [nI_toInt (show k < 2 ^ 31 by omega)] at i28_1)
        (try rw [nI_toInt (show N < 2 ^ 31 by omega)] at i28_1)
        refine lv_aload_n hx hb d_TT_tune_31 rfl (lv_at hl 2 rfl) ?_
        refine va_get (D := (dC, dI)) (ci := 0) (v := .ref (cd 1)) (C := R_TT) (T := F_TT) (N := 8) hx hb ht in_TT hown hK hP 0 rfl rfl 0 (by decide) (ht _ tb_75) (fun _ h9 => h9) rfl d_TT_tune_32 ?_
        refine lv_iload_n hx hb d_TT_tune_35 rfl (lv_at hl 0 rfl) ?_
        refine va_aldq (C := "TwinTuners$Request") hx hb hK hP 1 1 rfl rfl (vp_in_nI (show k < 40 by omega) (by decide)) d_TT_tune_36 ?_
        obtain ⟨a9, ea9, haa9, hna9⟩ := hC.2.2.2.2.2.1 k (by omega)
        refine W.eq (g2 := F0 m 37 ls [.ref a9]) (by rw [nI_clamp (show k < 2 ^ 31 by omega), ea9]; rfl) ?_
        refine lv_astore_n hx hb d_TT_tune_37 rfl hl (by decide) rfl (fun ls hl => ?_)
        have hl : lv_has ls 4 [(3, .ref a9), (2, .int (nI k)), (1, .int q), (0, .ref (cd 0))] := hl
        refine lv_aload_n hx hb d_TT_tune_38 rfl (lv_at hl 0 rfl) ?_
        refine lv_aload_n hx hb d_TT_tune_39 rfl (lv_at hl 3 rfl) ?_
        refine va_get (D := (dC, dI)) (ci := 0) (v := .int (sc2 1)) (C := R_TT) (T := F_TT) (N := 8) hx hb ht in_TT hown hK hP 0 rfl rfl 6 (by decide) (ht _ tb_81) (fun _ h9 => h9) rfl d_TT_tune_40 ?_
        obtain ⟨kq, hkq⟩ := pq_at (X := CX cd kI kQ sc2 ia qa4) (kI := kI) (bk := bk) (rf := rf_23) (ba := ba) haa9 hna9
        refine t_call (u0 := (sc2, ia, qa4, rf_23, ba)) (va_runV (C := R_RQ) (As := [.int (sc2 1)]) (rest := []) ⟨hx, hb, hml, hown, ht⟩ (k_RQ_follow l dC dI cd kI kQ L isA bk sc2 ia qa4 rf_23 ba H.size Bd N hC a9 haa9 hna9 (sc2 1)) (cwV 1 ht (gV tb_166 tb_167 tb_168 tb_11 tb_169) rfl rfl rfl (by decide +kernel) ⟨Nat.le_of_ble_eq_true rfl, Nat.le_of_ble_eq_true rfl⟩) ⟨frP_blind, va_recv (q := (R_RQ, F_RQ, 17)) hK hP rfl hkq, fr_pre hP hK hD hAB hBs hS hV⟩ rfl rfl hl.1 rfl (lv_room (Nat.le_of_ble_eq_true rfl)) d_TT_tune_43 ⟨Nat.le_of_ble_eq_true rfl, Nat.le_of_ble_eq_true rfl⟩) hD hS hA (fun r10 u H locs hu hP hD hS => ?_)
        obtain ⟨sc11, ia12, qa13, rf14, ba15⟩ := u
        obtain ⟨hu10_0, hu10_1, hu10_2, hu10_3, hu10_4⟩ := hu
        have hu10_0 : sc2 = sc11 := hu10_0
        have hu10_1 : ia = ia12 := hu10_1
        have hu10_2 : qa4 = qa13 := hu10_2
        have hu10_3 : ba = ba15 := hu10_3
        have hu10_4 : CI N L isA bk sc11 qa13 rf14 := hu10_4
        subst hu10_0
        subst hu10_1
        subst hu10_2
        subst hu10_3
        have hP : va_P (dC, dI) cls_ (CW cd kI kQ L isA bk sc2 ia qa4 rf14 ba) H := hP
        have hD : va_D A (CW cd kI kQ L isA bk sc2 ia qa4 rf14 ba) := hD
        have hC : CI N L isA bk sc2 qa4 rf14 := hu10_4
        refine W.eq (g2 := F0 m 46 ls []) rfl ?_
        refine W.cs (cells' := 0) (slots' := 0) rfl rfl ?_
        refine lv_aload_n hx hb d_TT_tune_46 rfl (lv_at hl 0 rfl) ?_
        obtain ⟨kq, hkq⟩ := pq_at (X := CX cd kI kQ sc2 ia qa4) (kI := kI) (bk := bk) (rf := rf14) (ba := ba) haa9 hna9
        refine va_get (D := (dC, dI)) (ci := 4) (v := .int (rf14 a9 8)) (C := R_RQ) (T := F_RQ) (N := 17) hx hb ht in_RQ hown hK hP kq hkq rfl 8 (by decide) (ht _ tb_392) (fun _ h9 => h9) rfl d_TT_tune_47 ?_
        refine lv_iconst (v := 1) hx hb d_TT_tune_50 (by decide) ?_
        refine lv_icmp_ne (tgt := 63) hx hb d_TT_tune_51 (by decide) (fun h51_4 => ?_) (fun h51_4 => ?_)
        · have h51_4 := h51_4
          have i51_4 := ti_ne h51_4
          (try rw [l_1] at i51_4)
          refine lv_iinc (k := 1) (v := nI (k + 1)) hx hb d_TT_tune_63 hl rfl ((nI_succ k).symm) (by decide) rfl (fun ls hl => ?_)
          have hl : lv_has ls 4 [(2, .int (nI (k + 1))), (3, .ref a9), (1, .int q), (0, .ref (cd 0))] := hl
          refine lv_goto (tgt := 23) hx hb d_TT_tune_66 (by decide) ?_
          have hl := lv_sub hl [0, 2, 3] (l' := [(2, .int (nI (k + 1))), (1, .int q), (0, .ref (cd 0))]) rfl
          exact ih_23 (k + 1) q rf14 H _ ls (by omega) (by omega) hC hl hP hD hS
        · have h51_4 := h51_4
          have i51_4 := ti_eq h51_4
          (try rw [l_1] at i51_4)
          refine lv_iload_n hx hb d_TT_tune_54 rfl (lv_at hl 2 rfl) ?_
          refine lv_iconst (v := 1) hx hb d_TT_tune_55 (by decide) ?_
          refine lv_aload_n hx hb d_TT_tune_56 rfl (lv_at hl 0 rfl) ?_
          obtain ⟨kq, hkq⟩ := pq_at (X := CX cd kI kQ sc2 ia qa4) (kI := kI) (bk := bk) (rf := rf14) (ba := ba) haa9 hna9
          refine va_get (D := (dC, dI)) (ci := 4) (v := .int (rf14 a9 1)) (C := R_RQ) (T := F_RQ) (N := 17) hx hb ht in_RQ hown hK hP kq hkq rfl 1 (by decide) (ht _ tb_376) (fun _ h9 => h9) rfl d_TT_tune_57 ?_
          refine lv_ishl hx hb d_TT_tune_60 ?_
          refine lv_topi (fun z16 _ => ?_)
          refine lv_ior hx hb d_TT_tune_61 ?_
          refine lv_istore_n hx hb d_TT_tune_62 rfl hl (by decide) rfl (fun ls hl => ?_)
          have hl : lv_has ls 4 [(1, .int (q ||| z16)), (3, .ref a9), (2, .int (nI k)), (0, .ref (cd 0))] := hl
          refine lv_iinc (k := 2) (v := nI (k + 1)) hx hb d_TT_tune_63 hl rfl ((nI_succ k).symm) (by decide) rfl (fun ls hl => ?_)
          have hl : lv_has ls 4 [(2, .int (nI (k + 1))), (1, .int (q ||| z16)), (3, .ref a9), (0, .ref (cd 0))] := hl
          refine lv_goto (tgt := 23) hx hb d_TT_tune_66 (by decide) ?_
          have hl := lv_sub hl [0, 1, 3] (l' := [(2, .int (nI (k + 1))), (1, .int (q ||| z16)), (0, .ref (cd 0))]) rfl
          exact ih_23 (k + 1) (q ||| z16) rf14 H _ ls (by omega) (by omega) hC hl hP hD hS
  have hl := lv_sub hl [0, 1, 2] (l' := [(2, .int 0), (1, .int 0), (0, .ref (cd 0))]) rfl
  have hl : lv_has ls 4 [(2, .int (nI 0)), (1, .int 0), (0, .ref (cd 0))] := hl
  exact J_23 ((N - 0) + 1) 0 0 rf5 H _ ls (by omega) (by omega) hC hl hP hD hS
set_option maxHeartbeats 8000000 in
set_option maxRecDepth 100000 in
theorem k_TT_wipe (l : Launch) (dC : Nat → ClassId) (dI : Nat → Nat → Nat) (cd : Nat → Nat) (kI kQ : ClassId) (L : List Nat) (isA : Nat → Bool) (bk : Nat → Nat) (sc : Nat → Int32) (ia : Nat → Nat → Int32) (qa : Nat → Nat → Option Nat) (rf ba : Nat → Nat → Int32) (sz Bd : Nat) (N : Nat) (hC : CI N L isA bk sc qa rf) (a : Nat) (ha : a ∈ L) (hn : isA a = false)  : Met l y_TT_wipe w_TT_wipe ({ frames := 1, cells := 0, slots := 0, locals := 23 }) (frP (dC, dI) (CW cd kI kQ L isA bk sc ia qa rf ba) (CT kI kQ) sz Bd [.ref (cd 0), .ref a]) (tQ (dC, dI) (cW cd kI kQ L isA bk) (va_A (CW cd kI kQ L isA bk sc ia qa rf ba) sz) vI (fun r u => sc = u.1 ∧ qa = u.2.2.1 ∧ ba = u.2.2.2.2 ∧ CI N L isA bk u.1 u.2.2.1 u.2.2.2.1)) 0 0 (va_A (CW cd kI kQ L isA bk sc ia qa rf ba) sz) := by
  refine Met.ofW (cc := c_TT_wipe) (maxL := 2) (ret := (some .int)) (by decide) rfl ?_
  intro p e s m args below meth c s₁ B hml hv
  obtain ⟨rfl, ⟨hsz, hBs⟩, hP, hK, hD0, hV⟩ := hv
  have hx := B.exec
  have hb := B.bytes
  have hr := B.returns
  have ht : ∀ w ∈ tb_, w.before _ s = true := fun w h => atoms_spec (ws := w_TT_wipe) B.pre w (List.mem_cons_of_mem _ h)
  have hown : s.vm.findClass R_TT = some m.cls := findClass_of_methodNamed B.named
  have hlocks := B.notSynchronized
  subst hsz
  have hD := hD0.self (sz := s.heap.size)
  have hAB : ∀ q, va_A (CW cd kI kQ L isA bk sc ia qa rf ba) s.heap.size q → Bd ≤ q := fr_AB hD0 hBs
  generalize hAe : va_A (CW cd kI kQ L isA bk sc ia qa rf ba) s.heap.size = A at hD hAB ⊢
  have hA : ∀ q : Nat, s.heap.size ≤ q → A q := fun q h => by rw [← hAe]; exact Or.inr h
  have hS : va_S A s.heap s.heap [] := va_S.rf
  have hs : same [] sc sc := same.rf
  have hP : va_P (dC, dI) cls_ (CW cd kI kQ L isA bk sc ia qa rf ba) s.heap := hP
  have hl := lv_entry ([.ref (cd 0), .ref a]) (n := 2) (Nat.le_of_ble_eq_true rfl)
  rw [lg_entry_eq]
  generalize (lg_sl ([.ref (cd 0), .ref a]) ++ List.replicate (2 - (lg_sl ([.ref (cd 0), .ref a])).length) Slot.unset).toArray = ls at hl ⊢
  have hl : lv_has ls 2 [(0, .ref (cd 0)), (1, .ref a)] := hl
  have hN := hC.1.1
  refine lv_aload_n hx hb d_TT_wipe_0 rfl (lv_at hl 1 rfl) ?_
  refine lv_iconst (v := 5) hx hb d_TT_wipe_1 (by decide) ?_
  obtain ⟨kq, hkq⟩ := pq_at (X := CX cd kI kQ sc ia qa) (kI := kI) (bk := bk) (rf := rf) (ba := ba) ha hn
  have hD0 := hD
  refine va_put (D := (dC, dI)) (ci := 4) (v := .int 5) (ty := .int) (C := R_RQ) (T := F_RQ) (N := 17) hx hb ht in_RQ t_RQ t_RQ_ok n_RQ hown hK hP hD hS kq hkq rfl 8 (by decide) (ht _ tb_392) (fun _ h9 => h9) rfl (by decide +kernel) rfl rfl (Nat.le_of_ble_eq_true rfl) d_TT_wipe_2 (fun H locs hP hD hS => ?_)
  rw [pq_set hD0 ha hn hkq rfl] at hP hD
  have hP : va_P (dC, dI) cls_ (CW cd kI kQ L isA bk sc ia qa (va_up rf a (va_up (rf a) 8 5)) ba) H := hP
  have hD : va_D A (CW cd kI kQ L isA bk sc ia qa (va_up rf a (va_up (rf a) 8 5)) ba) := hD
  obtain ⟨rf1, erf1⟩ : ∃ q9_, q9_ = va_up rf a (va_up (rf a) 8 5) := ⟨_, rfl⟩
  rw [← erf1] at hP hD
  have hC : CI N L isA bk sc qa rf1 := by rw [erf1]; exact CI_r hC (by decide) (Or.inl (by decide))
  refine lv_aload_n hx hb d_TT_wipe_5 rfl (lv_at hl 1 rfl) ?_
  refine lv_iconst (v := 0) hx hb d_TT_wipe_6 (by decide) ?_
  obtain ⟨kq, hkq⟩ := pq_at (X := CX cd kI kQ sc ia qa) (kI := kI) (bk := bk) (rf := rf1) (ba := ba) ha hn
  have hD0 := hD
  refine va_put (D := (dC, dI)) (ci := 4) (v := .int 0) (ty := .boolean) (C := R_RQ) (T := F_RQ) (N := 17) hx hb ht in_RQ t_RQ t_RQ_ok n_RQ hown hK hP hD hS kq hkq rfl 15 (by decide) (ht _ tb_410) (fun _ h9 => h9) rfl (by decide +kernel) rfl rfl (Nat.le_of_ble_eq_true rfl) d_TT_wipe_7 (fun H locs hP hD hS => ?_)
  rw [pq_set hD0 ha hn hkq rfl] at hP hD
  have hP : va_P (dC, dI) cls_ (CW cd kI kQ L isA bk sc ia qa (va_up rf1 a (va_up (rf1 a) 15 0)) ba) H := hP
  have hD : va_D A (CW cd kI kQ L isA bk sc ia qa (va_up rf1 a (va_up (rf1 a) 15 0)) ba) := hD
  obtain ⟨rf2, erf2⟩ : ∃ q9_, q9_ = va_up rf1 a (va_up (rf1 a) 15 0) := ⟨_, rfl⟩
  rw [← erf2] at hP hD
  have hC : CI N L isA bk sc qa rf2 := by rw [erf2]; exact CI_r hC (by decide) (Or.inl (by decide))
  refine lv_aload_n hx hb d_TT_wipe_10 rfl (lv_at hl 1 rfl) ?_
  refine lv_iconst (v := 0) hx hb d_TT_wipe_11 (by decide) ?_
  obtain ⟨kq, hkq⟩ := pq_at (X := CX cd kI kQ sc ia qa) (kI := kI) (bk := bk) (rf := rf2) (ba := ba) ha hn
  have hD0 := hD
  refine va_put (D := (dC, dI)) (ci := 4) (v := .int 0) (ty := .boolean) (C := R_RQ) (T := F_RQ) (N := 17) hx hb ht in_RQ t_RQ t_RQ_ok n_RQ hown hK hP hD hS kq hkq rfl 16 (by decide) (ht _ tb_412) (fun _ h9 => h9) rfl (by decide +kernel) rfl rfl (Nat.le_of_ble_eq_true rfl) d_TT_wipe_12 (fun H locs hP hD hS => ?_)
  rw [pq_set hD0 ha hn hkq rfl] at hP hD
  have hP : va_P (dC, dI) cls_ (CW cd kI kQ L isA bk sc ia qa (va_up rf2 a (va_up (rf2 a) 16 0)) ba) H := hP
  have hD : va_D A (CW cd kI kQ L isA bk sc ia qa (va_up rf2 a (va_up (rf2 a) 16 0)) ba) := hD
  obtain ⟨rf3, erf3⟩ : ∃ q9_, q9_ = va_up rf2 a (va_up (rf2 a) 16 0) := ⟨_, rfl⟩
  rw [← erf3] at hP hD
  have hC : CI N L isA bk sc qa rf3 := by rw [erf3]; exact CI_r hC (by decide) (Or.inl (by decide))
  refine lv_aload_n hx hb d_TT_wipe_15 rfl (lv_at hl 1 rfl) ?_
  refine lv_iconst (v := 0) hx hb d_TT_wipe_16 (by decide) ?_
  obtain ⟨kq, hkq⟩ := pq_at (X := CX cd kI kQ sc ia qa) (kI := kI) (bk := bk) (rf := rf3) (ba := ba) ha hn
  have hD0 := hD
  refine va_put (D := (dC, dI)) (ci := 4) (v := .int 0) (ty := .int) (C := R_RQ) (T := F_RQ) (N := 17) hx hb ht in_RQ t_RQ t_RQ_ok n_RQ hown hK hP hD hS kq hkq rfl 14 (by decide) (ht _ tb_408) (fun _ h9 => h9) rfl (by decide +kernel) rfl rfl (Nat.le_of_ble_eq_true rfl) d_TT_wipe_17 (fun H locs hP hD hS => ?_)
  rw [pq_set hD0 ha hn hkq rfl] at hP hD
  have hP : va_P (dC, dI) cls_ (CW cd kI kQ L isA bk sc ia qa (va_up rf3 a (va_up (rf3 a) 14 0)) ba) H := hP
  have hD : va_D A (CW cd kI kQ L isA bk sc ia qa (va_up rf3 a (va_up (rf3 a) 14 0)) ba) := hD
  obtain ⟨rf4, erf4⟩ : ∃ q9_, q9_ = va_up rf3 a (va_up (rf3 a) 14 0) := ⟨_, rfl⟩
  rw [← erf4] at hP hD
  have hC : CI N L isA bk sc qa rf4 := by rw [erf4]; exact CI_r hC (by decide) (Or.inr (by rw [l_0]; omega))
  refine lv_aload_n hx hb d_TT_wipe_20 rfl (lv_at hl 0 rfl) ?_
  refine va_get (D := (dC, dI)) (ci := 0) (v := .ref (cd 5)) (C := R_TT) (T := F_TT) (N := 8) hx hb ht in_TT hown hK hP 0 rfl rfl 3 (by decide) (ht _ tb_78) (fun _ h9 => h9) rfl d_TT_wipe_21 ?_
  refine lv_aload_n hx hb d_TT_wipe_24 rfl (lv_at hl 1 rfl) ?_
  obtain ⟨kq, hkq⟩ := pq_at (X := CX cd kI kQ sc ia qa) (kI := kI) (bk := bk) (rf := rf4) (ba := ba) ha hn
  refine va_get (D := (dC, dI)) (ci := 4) (v := .int (rf4 a 0)) (C := R_RQ) (T := F_RQ) (N := 17) hx hb ht in_RQ hown hK hP kq hkq rfl 0 (by decide) (ht _ tb_373) (fun _ h9 => h9) rfl d_TT_wipe_25 ?_
  refine t_call (u0 := (sc, ia, qa, rf4, ba)) (va_runV (C := R_DK) (As := [.int (rf4 a 0)]) (rest := []) ⟨hx, hb, hml, hown, ht⟩ (k_DK_release l dC dI cd kI kQ L isA bk sc ia qa rf4 ba H.size Bd N hC (rf4 a 0)) (cwV 1 ht (gV tb_213 tb_214 tb_215 tb_3 tb_216) rfl rfl rfl (by decide +kernel) ⟨Nat.le_of_ble_eq_true rfl, Nat.le_of_ble_eq_true rfl⟩) ⟨frP_blind, va_recv (q := (R_DK, F_DK, 4)) hK hP rfl (show (CW cd kI kQ L isA bk sc ia qa rf4 ba : va_W)[5]? = some _ from rfl), fr_pre hP hK hD hAB hBs hS hV⟩ rfl rfl hl.1 rfl (lv_room (Nat.le_of_ble_eq_true rfl)) d_TT_wipe_28 ⟨Nat.le_of_ble_eq_true rfl, Nat.le_of_ble_eq_true rfl⟩) hD hS hA (fun r5 u H locs hu hP hD hS => ?_)
  obtain ⟨sc6, ia7, qa8, rf9, ba10⟩ := u
  obtain ⟨hu5_0, hu5_1, hu5_2, hu5_3, hu5_4⟩ := hu
  have hu5_0 : sc = sc6 := hu5_0
  have hu5_1 : qa = qa8 := hu5_1
  have hu5_2 : rf4 = rf9 := hu5_2
  have hu5_3 : ba = ba10 := hu5_3
  have hu5_4 : CI N L isA bk sc6 qa8 rf9 := hu5_4
  subst hu5_0
  subst hu5_1
  subst hu5_2
  subst hu5_3
  have hP : va_P (dC, dI) cls_ (CW cd kI kQ L isA bk sc ia7 qa rf4 ba) H := hP
  have hD : va_D A (CW cd kI kQ L isA bk sc ia7 qa rf4 ba) := hD
  have hC : CI N L isA bk sc qa rf4 := hu5_4
  refine W.eq (g2 := F0 m 31 ls [.int r5]) rfl ?_
  refine W.cs (cells' := 0) (slots' := 0) rfl rfl ?_
  exact W.iret (v := r5) hx hb hr (fun t ht9 hW => ⟨⟨r5, (sc, ia7, qa, rf4, ba), rfl, ⟨rfl, rfl, rfl, hC⟩, by rw [ht9]; exact hP, hD⟩, hS.F ht9⟩) hS.2.2 d_TT_wipe_31
set_option maxHeartbeats 8000000 in
set_option maxRecDepth 100000 in
theorem k_TT_mayGo (l : Launch) (dC : Nat → ClassId) (dI : Nat → Nat → Nat) (cd : Nat → Nat) (kI kQ : ClassId) (L : List Nat) (isA : Nat → Bool) (bk : Nat → Nat) (sc : Nat → Int32) (ia : Nat → Nat → Int32) (qa : Nat → Nat → Option Nat) (rf ba : Nat → Nat → Int32) (N : Nat) (hC : CI N L isA bk sc qa rf) (a : Nat) (ha : a ∈ L) (hn : isA a = false)  : Met l y_TT_mayGo w_TT_mayGo ({ frames := 1, cells := 0, slots := 0, locals := 23 }) (rdP (dC, dI) (CW cd kI kQ L isA bk sc ia qa rf ba) (CT kI kQ) [.ref (cd 0), .ref a]) (rQ vI (fun r => True)) 0 0 (fun _ => False) := by
  refine Met.ofW (cc := c_TT_mayGo) (maxL := 2) (ret := (some .boolean)) (by decide) rfl ?_
  intro p e s m args below meth c s₁ B hml hv
  obtain ⟨rfl, hP, hK⟩ := hv
  have hx := B.exec
  have hb := B.bytes
  have hr := B.returns
  have ht : ∀ w ∈ tb_, w.before _ s = true := fun w h => atoms_spec (ws := w_TT_mayGo) B.pre w (List.mem_cons_of_mem _ h)
  have hown : s.vm.findClass R_TT = some m.cls := findClass_of_methodNamed B.named
  have hlocks := B.notSynchronized
  have hP : va_P (dC, dI) cls_ (CW cd kI kQ L isA bk sc ia qa rf ba) s.heap := hP
  have hl := lv_entry ([.ref (cd 0), .ref a]) (n := 2) (Nat.le_of_ble_eq_true rfl)
  rw [lg_entry_eq]
  generalize (lg_sl ([.ref (cd 0), .ref a]) ++ List.replicate (2 - (lg_sl ([.ref (cd 0), .ref a])).length) Slot.unset).toArray = ls at hl ⊢
  have hl : lv_has ls 2 [(0, .ref (cd 0)), (1, .ref a)] := hl
  have hN := hC.1.1
  refine lv_aload_n hx hb d_TT_mayGo_0 rfl (lv_at hl 1 rfl) ?_
  obtain ⟨kq, hkq⟩ := pq_at (X := CX cd kI kQ sc ia qa) (kI := kI) (bk := bk) (rf := rf) (ba := ba) ha hn
  refine va_get (D := (dC, dI)) (ci := 4) (v := .int (rf a 8)) (C := R_RQ) (T := F_RQ) (N := 17) hx hb ht in_RQ hown hK hP kq hkq rfl 8 (by decide) (ht _ tb_392) (fun _ h9 => h9) rfl d_TT_mayGo_1 ?_
  refine lv_iconst (v := 2) hx hb d_TT_mayGo_4 (by decide) ?_
  refine lv_icmp_ne (tgt := 33) hx hb d_TT_mayGo_5 (by decide) (fun h5_1 => ?_) (fun h5_1 => ?_)
  · have h5_1 := h5_1
    have i5_1 := ti_ne h5_1
    (try rw [l_2] at i5_1)
    refine lv_iconst (v := 0) hx hb d_TT_mayGo_33 (by decide) ?_
    exact W.zret (v := 0) hx hb hr rfl (fun t ht9 hW => ⟨0, rfl, trivial, ht9⟩) (fun q h => by cases h) d_TT_mayGo_34
  · have h5_1 := h5_1
    have i5_1 := ti_eq h5_1
    (try rw [l_2] at i5_1)
    refine lv_aload_n hx hb d_TT_mayGo_8 rfl (lv_at hl 1 rfl) ?_
    obtain ⟨kq, hkq⟩ := pq_at (X := CX cd kI kQ sc ia qa) (kI := kI) (bk := bk) (rf := rf) (ba := ba) ha hn
    refine va_get (D := (dC, dI)) (ci := 4) (v := .int (rf a 15)) (C := R_RQ) (T := F_RQ) (N := 17) hx hb ht in_RQ hown hK hP kq hkq rfl 15 (by decide) (ht _ tb_410) (fun _ h9 => h9) rfl d_TT_mayGo_9 ?_
    refine lv_if_ne (tgt := 33) hx hb d_TT_mayGo_12 (by decide) (fun h12_2 => ?_) (fun h12_2 => ?_)
    · have h12_2 := h12_2
      have i12_2 := ti_ne h12_2
      (try rw [l_0] at i12_2)
      refine lv_iconst (v := 0) hx hb d_TT_mayGo_33 (by decide) ?_
      exact W.zret (v := 0) hx hb hr rfl (fun t ht9 hW => ⟨0, rfl, trivial, ht9⟩) (fun q h => by cases h) d_TT_mayGo_34
    · have h12_2 := h12_2
      have i12_2 := ti_eq h12_2
      (try rw [l_0] at i12_2)
      refine lv_aload_n hx hb d_TT_mayGo_15 rfl (lv_at hl 0 rfl) ?_
      refine va_get (D := (dC, dI)) (ci := 0) (v := .ref (cd 5)) (C := R_TT) (T := F_TT) (N := 8) hx hb ht in_TT hown hK hP 0 rfl rfl 3 (by decide) (ht _ tb_78) (fun _ h9 => h9) rfl d_TT_mayGo_16 ?_
      refine lv_aload_n hx hb d_TT_mayGo_19 rfl (lv_at hl 1 rfl) ?_
      obtain ⟨kq, hkq⟩ := pq_at (X := CX cd kI kQ sc ia qa) (kI := kI) (bk := bk) (rf := rf) (ba := ba) ha hn
      refine va_get (D := (dC, dI)) (ci := 4) (v := .int (rf a 0)) (C := R_RQ) (T := F_RQ) (N := 17) hx hb ht in_RQ hown hK hP kq hkq rfl 0 (by decide) (ht _ tb_373) (fun _ h9 => h9) rfl d_TT_mayGo_20 ?_
      refine r_call (va_runV (C := R_DK) (As := [.int (rf a 0)]) (rest := []) ⟨hx, hb, hml, hown, ht⟩ (k_DK_segmentsOf l dC dI cd kI kQ L isA bk sc ia qa rf ba N hC (rf a 0)) (cwV 1 ht (gV tb_204 tb_193 tb_194 tb_3 tb_195) rfl rfl rfl (by decide +kernel) ⟨Nat.le_of_ble_eq_true rfl, Nat.le_of_ble_eq_true rfl⟩) ⟨rdP_blind, va_recv (q := (R_DK, F_DK, 4)) hK hP rfl (show (CW cd kI kQ L isA bk sc ia qa rf ba : va_W)[5]? = some _ from rfl), rd_pre hP hK⟩ rfl rfl hl.1 rfl (lv_room (Nat.le_of_ble_eq_true rfl)) d_TT_mayGo_23 ⟨Nat.le_of_ble_eq_true rfl, Nat.le_of_ble_eq_true rfl⟩) (fun r1 hu => ?_)
      clear hu
      refine W.eq (g2 := F0 m 26 ls [.int r1]) rfl ?_
      refine lv_if_le (tgt := 33) hx hb d_TT_mayGo_26 (by decide) (fun h26_3 => ?_) (fun h26_3 => ?_)
      · have h26_3 := h26_3
        have i26_3 := ti_le h26_3
        (try rw [l_0] at i26_3)
        refine lv_iconst (v := 0) hx hb d_TT_mayGo_33 (by decide) ?_
        exact W.zret (v := 0) hx hb hr rfl (fun t ht9 hW => ⟨0, rfl, trivial, ht9⟩) (fun q h => by cases h) d_TT_mayGo_34
      · have h26_3 := h26_3
        have i26_3 := ti_nle h26_3
        (try rw [l_0] at i26_3)
        refine lv_iconst (v := 1) hx hb d_TT_mayGo_29 (by decide) ?_
        refine lv_goto (tgt := 34) hx hb d_TT_mayGo_30 (by decide) ?_
        exact W.zret (v := 1) hx hb hr rfl (fun t ht9 hW => ⟨1, rfl, trivial, ht9⟩) (fun q h => by cases h) d_TT_mayGo_34
set_option maxHeartbeats 8000000 in
set_option maxRecDepth 100000 in
theorem k_TT_makeRoom (l : Launch) (dC : Nat → ClassId) (dI : Nat → Nat → Nat) (cd : Nat → Nat) (kI kQ : ClassId) (L : List Nat) (isA : Nat → Bool) (bk : Nat → Nat) (sc : Nat → Int32) (ia : Nat → Nat → Int32) (qa : Nat → Nat → Option Nat) (rf ba : Nat → Nat → Int32) (sz Bd : Nat) (N : Nat) (hC : CI N L isA bk sc qa rf)  : Met l y_TT_makeRoom w_TT_makeRoom ({ frames := 2, cells := 0, slots := 0, locals := 44 }) (frP (dC, dI) (CW cd kI kQ L isA bk sc ia qa rf ba) (CT kI kQ) sz Bd [.ref (cd 0)]) (tQ (dC, dI) (cW cd kI kQ L isA bk) (va_A (CW cd kI kQ L isA bk sc ia qa rf ba) sz) vN (fun r u => sc = u.1 ∧ qa = u.2.2.1 ∧ ba = u.2.2.2.2 ∧ CI N L isA bk u.1 u.2.2.1 u.2.2.2.1)) 0 0 (va_A (CW cd kI kQ L isA bk sc ia qa rf ba) sz) := by
  refine Met.ofW (cc := c_TT_makeRoom) (maxL := 4) (ret := none) (by decide) rfl ?_
  intro p e s m args below meth c s₁ B hml hv
  obtain ⟨rfl, ⟨hsz, hBs⟩, hP, hK, hD0, hV⟩ := hv
  have hx := B.exec
  have hb := B.bytes
  have hr := B.returns
  have ht : ∀ w ∈ tb_, w.before _ s = true := fun w h => atoms_spec (ws := w_TT_makeRoom) B.pre w (List.mem_cons_of_mem _ h)
  have hown : s.vm.findClass R_TT = some m.cls := findClass_of_methodNamed B.named
  have hlocks := B.notSynchronized
  subst hsz
  have hD := hD0.self (sz := s.heap.size)
  have hAB : ∀ q, va_A (CW cd kI kQ L isA bk sc ia qa rf ba) s.heap.size q → Bd ≤ q := fr_AB hD0 hBs
  generalize hAe : va_A (CW cd kI kQ L isA bk sc ia qa rf ba) s.heap.size = A at hD hAB ⊢
  have hA : ∀ q : Nat, s.heap.size ≤ q → A q := fun q h => by rw [← hAe]; exact Or.inr h
  have hS : va_S A s.heap s.heap [] := va_S.rf
  have hs : same [] sc sc := same.rf
  have hP : va_P (dC, dI) cls_ (CW cd kI kQ L isA bk sc ia qa rf ba) s.heap := hP
  have hl := lv_entry ([.ref (cd 0)]) (n := 4) (Nat.le_of_ble_eq_true rfl)
  rw [lg_entry_eq]
  generalize (lg_sl ([.ref (cd 0)]) ++ List.replicate (4 - (lg_sl ([.ref (cd 0)])).length) Slot.unset).toArray = ls at hl ⊢
  have hl : lv_has ls 4 [(0, .ref (cd 0))] := hl
  have hN := hC.1.1
  refine lv_null hx hb d_TT_makeRoom_0 ?_
  refine lv_astore_nN hx hb d_TT_makeRoom_1 rfl hl (by decide) rfl (fun ls hl => ?_)
  have hl : lv_has ls 4 [(1, .null), (0, .ref (cd 0))] := hl
  refine lv_iconst (v := 0) hx hb d_TT_makeRoom_2 (by decide) ?_
  refine lv_istore_n hx hb d_TT_makeRoom_3 rfl hl (by decide) rfl (fun ls hl => ?_)
  have hl : lv_has ls 4 [(2, .int 0), (1, .null), (0, .ref (cd 0))] := hl
  have J_4 : ∀ (n_4 : Nat) (k : Nat) (o : Option Nat)  (H : Heap) (locs : List Loc) (ls : Array Slot), N - k < n_4 → k ≤ N → (∀ b, o = some b → b ∈ L ∧ isA b = false) → lv_has ls 4 [(2, .int (nI k)), (1, va_rf o), (0, .ref (cd 0))] → va_P (dC, dI) cls_ (CW cd kI kQ L isA bk sc ia qa rf ba) H → va_D A (CW cd kI kQ L isA bk sc ia qa rf ba) → va_S A s.heap H locs → W p l e (headSpec w_TT_makeRoom ({ frames := 2, cells := 0, slots := 0, locals := 44 })).room s m (([.ref (cd 0)] : List Value).toArray) below meth c H locs 0 0 (MQ below (tQ (dC, dI) (cW cd kI kQ L isA bk) A vN (fun r u => sc = u.1 ∧ qa = u.2.2.1 ∧ ba = u.2.2.2.2 ∧ CI N L isA bk u.1 u.2.2.1 u.2.2.2.1)) (([.ref (cd 0)] : List Value).toArray) s 0 0 A) (F0 m 4 ls []) := by
    intro n_4
    induction n_4 with
    | zero => intro k o H locs ls hmu hc4_0 hc4_1 hl hP hD hS; exact absurd hmu (by omega)
    | succ n_4 ih_4 =>
      intro k o H locs ls hmu hc4_0 hc4_1 hl hP hD hS
      cases o with
      | none =>
        have hl : lv_has ls 4 [(2, .int (nI k)), (1, .null), (0, .ref (cd 0))] := hl
        refine lv_iload_n hx hb d_TT_makeRoom_4 rfl (lv_at hl 0 rfl) ?_
        refine lv_aload_n hx hb d_TT_makeRoom_5 rfl (lv_at hl 2 rfl) ?_
        refine va_get (D := (dC, dI)) (ci := 0) (v := .int (sc 0)) (C := R_TT) (T := F_TT) (N := 8) hx hb ht in_TT hown hK hP 0 rfl rfl 5 (by decide) (ht _ tb_80) (fun _ h9 => h9) rfl d_TT_makeRoom_6 ?_
        refine W.eq (g2 := F0 m 9 ls [.int (nI N), .int (nI k)]) (by rw [show sc 0 = nI N from hC.1.2]) ?_
        refine lv_icmp_ge (tgt := 47) hx hb d_TT_makeRoom_9 (by decide) (fun h9_1 => ?_) (fun h9_1 => ?_)
        · have h9_1 := h9_1
          have i9_1 := ti_le h9_1
          (try rw [nI_toInt (show k < 2 ^ 31 by omega)] at i9_1)
          (try rw [nI_toInt (show N < 2 ^ 31 by omega)] at i9_1)
          refine lv_aload_nN hx hb d_TT_makeRoom_47 rfl (lv_at hl 1 rfl) ?_
          refine lv_ifnullN (tgt := 57) hx hb d_TT_makeRoom_48 (by decide) ?_
          exact W.vret hx hb hr (fun t ht9 hW => ⟨⟨(), (sc, ia, qa, rf, ba), rfl, ⟨rfl, rfl, rfl, hC⟩, by rw [ht9]; exact hP, hD⟩, hS.F ht9⟩) hS.2.2 d_TT_makeRoom_57
        · have h9_1 := h9_1
          have i9_1 := ti_nle h9_1
          (try rw [nI_toInt (show k < 2 ^ 31 by omega)] at i9_1)
          (try rw [nI_toInt (show N < 2 ^ 31 by omega)] at i9_1)
          refine lv_aload_n hx hb d_TT_makeRoom_12 rfl (lv_at hl 2 rfl) ?_
          refine va_get (D := (dC, dI)) (ci := 0) (v := .ref (cd 1)) (C := R_TT) (T := F_TT) (N := 8) hx hb ht in_TT hown hK hP 0 rfl rfl 0 (by decide) (ht _ tb_75) (fun _ h9 => h9) rfl d_TT_makeRoom_13 ?_
          refine lv_iload_n hx hb d_TT_makeRoom_16 rfl (lv_at hl 0 rfl) ?_
          refine va_aldq (C := "TwinTuners$Request") hx hb hK hP 1 1 rfl rfl (vp_in_nI (show k < 40 by omega) (by decide)) d_TT_makeRoom_17 ?_
          obtain ⟨a1, ea1, haa1, hna1⟩ := hC.2.2.2.2.2.1 k (by omega)
          refine W.eq (g2 := F0 m 18 ls [.ref a1]) (by rw [nI_clamp (show k < 2 ^ 31 by omega), ea1]; rfl) ?_
          refine lv_astore_n hx hb d_TT_makeRoom_18 rfl hl (by decide) rfl (fun ls hl => ?_)
          have hl : lv_has ls 4 [(3, .ref a1), (2, .int (nI k)), (1, .null), (0, .ref (cd 0))] := hl
          refine lv_aload_n hx hb d_TT_makeRoom_19 rfl (lv_at hl 3 rfl) ?_
          refine lv_aload_n hx hb d_TT_makeRoom_20 rfl (lv_at hl 0 rfl) ?_
          refine r_call (va_runV (C := R_TT) (As := [.ref a1]) (rest := []) ⟨hx, hb, hml, hown, ht⟩ (k_TT_mayGo l dC dI cd kI kQ L isA bk sc ia qa rf ba N hC a1 haa1 hna1) (cwV 1 ht (gV tb_200 tb_202 ts_14 tb_1 tb_203) rfl rfl rfl (by decide +kernel) ⟨Nat.le_of_ble_eq_true rfl, Nat.le_of_ble_eq_true rfl⟩) ⟨rdP_blind, va_recv (q := (R_TT, F_TT, 8)) hK hP rfl (show (CW cd kI kQ L isA bk sc ia qa rf ba : va_W)[0]? = some _ from rfl), rd_pre hP hK⟩ rfl rfl hl.1 rfl (lv_room (Nat.le_of_ble_eq_true rfl)) d_TT_makeRoom_21 ⟨Nat.le_of_ble_eq_true rfl, Nat.le_of_ble_eq_true rfl⟩) (fun r2 hu => ?_)
          clear hu
          refine W.eq (g2 := F0 m 24 ls [.int r2]) rfl ?_
          refine lv_if_eq (tgt := 41) hx hb d_TT_makeRoom_24 (by decide) (fun h24_2 => ?_) (fun h24_2 => ?_)
          · have h24_2 := h24_2
            have i24_2 := ti_eq h24_2
            (try rw [l_0] at i24_2)
            refine lv_iinc (k := 1) (v := nI (k + 1)) hx hb d_TT_makeRoom_41 hl rfl ((nI_succ k).symm) (by decide) rfl (fun ls hl => ?_)
            have hl : lv_has ls 4 [(2, .int (nI (k + 1))), (3, .ref a1), (1, .null), (0, .ref (cd 0))] := hl
            refine lv_goto (tgt := 4) hx hb d_TT_makeRoom_44 (by decide) ?_
            have hl := lv_sub hl [0, 2, 3] (l' := [(2, .int (nI (k + 1))), (1, .null), (0, .ref (cd 0))]) rfl
            have hl : lv_has ls 4 [(2, .int (nI (k + 1))), (1, va_rf none), (0, .ref (cd 0))] := hl
            exact ih_4 (k + 1) none H _ ls (by omega) (by omega) (fun b h9 => by cases h9) hl hP hD hS
          · have h24_2 := h24_2
            have i24_2 := ti_ne h24_2
            (try rw [l_0] at i24_2)
            refine lv_aload_nN hx hb d_TT_makeRoom_27 rfl (lv_at hl 2 rfl) ?_
            refine lv_ifnullN (tgt := 39) hx hb d_TT_makeRoom_28 (by decide) ?_
            refine lv_aload_n hx hb d_TT_makeRoom_39 rfl (lv_at hl 0 rfl) ?_
            refine lv_astore_n hx hb d_TT_makeRoom_40 rfl hl (by decide) rfl (fun ls hl => ?_)
            have hl : lv_has ls 4 [(1, .ref a1), (3, .ref a1), (2, .int (nI k)), (0, .ref (cd 0))] := hl
            refine lv_iinc (k := 2) (v := nI (k + 1)) hx hb d_TT_makeRoom_41 hl rfl ((nI_succ k).symm) (by decide) rfl (fun ls hl => ?_)
            have hl : lv_has ls 4 [(2, .int (nI (k + 1))), (1, .ref a1), (3, .ref a1), (0, .ref (cd 0))] := hl
            refine lv_goto (tgt := 4) hx hb d_TT_makeRoom_44 (by decide) ?_
            have hl := lv_sub hl [0, 1, 3] (l' := [(2, .int (nI (k + 1))), (1, .ref a1), (0, .ref (cd 0))]) rfl
            have hl : lv_has ls 4 [(2, .int (nI (k + 1))), (1, va_rf (some a1)), (0, .ref (cd 0))] := hl
            exact ih_4 (k + 1) (some a1) H _ ls (by omega) (by omega) (fun b h9 => by cases h9; exact ⟨haa1, hna1⟩) hl hP hD hS
      | some b =>
        have hl : lv_has ls 4 [(2, .int (nI k)), (1, .ref b), (0, .ref (cd 0))] := hl
        obtain ⟨hab, hnb⟩ := hc4_1 b rfl
        refine lv_iload_n hx hb d_TT_makeRoom_4 rfl (lv_at hl 0 rfl) ?_
        refine lv_aload_n hx hb d_TT_makeRoom_5 rfl (lv_at hl 2 rfl) ?_
        refine va_get (D := (dC, dI)) (ci := 0) (v := .int (sc 0)) (C := R_TT) (T := F_TT) (N := 8) hx hb ht in_TT hown hK hP 0 rfl rfl 5 (by decide) (ht _ tb_80) (fun _ h9 => h9) rfl d_TT_makeRoom_6 ?_
        refine W.eq (g2 := F0 m 9 ls [.int (nI N), .int (nI k)]) (by rw [show sc 0 = nI N from hC.1.2]) ?_
        refine lv_icmp_ge (tgt := 47) hx hb d_TT_makeRoom_9 (by decide) (fun h9_3 => ?_) (fun h9_3 => ?_)
        · have h9_3 := h9_3
          have i9_3 := ti_le h9_3
          (try rw [nI_toInt (show k < 2 ^ 31 by omega)] at i9_3)
          (try rw [nI_toInt (show N < 2 ^ 31 by omega)] at i9_3)
          refine lv_aload_n hx hb d_TT_makeRoom_47 rfl (lv_at hl 1 rfl) ?_
          refine lv_ifnull hx hb d_TT_makeRoom_48 ?_
          refine lv_aload_n hx hb d_TT_makeRoom_51 rfl (lv_at hl 2 rfl) ?_
          refine lv_aload_n hx hb d_TT_makeRoom_52 rfl (lv_at hl 1 rfl) ?_
          refine t_call (u0 := (sc, ia, qa, rf, ba)) (va_runV (C := R_TT) (As := [.ref b]) (rest := []) ⟨hx, hb, hml, hown, ht⟩ (k_TT_wipe l dC dI cd kI kQ L isA bk sc ia qa rf ba H.size Bd N hC b hab hnb) (cwV 1 ht (gV tb_209 tb_211 ts_15 tb_1 tb_212) rfl rfl rfl (by decide +kernel) ⟨Nat.le_of_ble_eq_true rfl, Nat.le_of_ble_eq_true rfl⟩) ⟨frP_blind, va_recv (q := (R_TT, F_TT, 8)) hK hP rfl (show (CW cd kI kQ L isA bk sc ia qa rf ba : va_W)[0]? = some _ from rfl), fr_pre hP hK hD hAB hBs hS hV⟩ rfl rfl hl.1 rfl (lv_room (Nat.le_of_ble_eq_true rfl)) d_TT_makeRoom_53 ⟨Nat.le_of_ble_eq_true rfl, Nat.le_of_ble_eq_true rfl⟩) hD hS hA (fun r3 u H locs hu hP hD hS => ?_)
          obtain ⟨sc4, ia5, qa6, rf7, ba8⟩ := u
          obtain ⟨hu3_0, hu3_1, hu3_2, hu3_3⟩ := hu
          have hu3_0 : sc = sc4 := hu3_0
          have hu3_1 : qa = qa6 := hu3_1
          have hu3_2 : ba = ba8 := hu3_2
          have hu3_3 : CI N L isA bk sc4 qa6 rf7 := hu3_3
          subst hu3_0
          subst hu3_1
          subst hu3_2
          have hP : va_P (dC, dI) cls_ (CW cd kI kQ L isA bk sc ia5 qa rf7 ba) H := hP
          have hD : va_D A (CW cd kI kQ L isA bk sc ia5 qa rf7 ba) := hD
          have hC : CI N L isA bk sc qa rf7 := hu3_3
          refine W.eq (g2 := F0 m 56 ls [.int r3]) rfl ?_
          refine W.cs (cells' := 0) (slots' := 0) rfl rfl ?_
          refine lv_pop hx hb d_TT_makeRoom_56 rfl ?_
          exact W.vret hx hb hr (fun t ht9 hW => ⟨⟨(), (sc, ia5, qa, rf7, ba), rfl, ⟨rfl, rfl, rfl, hC⟩, by rw [ht9]; exact hP, hD⟩, hS.F ht9⟩) hS.2.2 d_TT_makeRoom_57
        · have h9_3 := h9_3
          have i9_3 := ti_nle h9_3
          (try rw [nI_toInt (show k < 2 ^ 31 by omega)] at i9_3)
          (try rw [nI_toInt (show N < 2 ^ 31 by omega)] at i9_3)
          refine lv_aload_n hx hb d_TT_makeRoom_12 rfl (lv_at hl 2 rfl) ?_
          refine va_get (D := (dC, dI)) (ci := 0) (v := .ref (cd 1)) (C := R_TT) (T := F_TT) (N := 8) hx hb ht in_TT hown hK hP 0 rfl rfl 0 (by decide) (ht _ tb_75) (fun _ h9 => h9) rfl d_TT_makeRoom_13 ?_
          refine lv_iload_n hx hb d_TT_makeRoom_16 rfl (lv_at hl 0 rfl) ?_
          refine va_aldq (C := "TwinTuners$Request") hx hb hK hP 1 1 rfl rfl (vp_in_nI (show k < 40 by omega) (by decide)) d_TT_makeRoom_17 ?_
          obtain ⟨a9, ea9, haa9, hna9⟩ := hC.2.2.2.2.2.1 k (by omega)
          refine W.eq (g2 := F0 m 18 ls [.ref a9]) (by rw [nI_clamp (show k < 2 ^ 31 by omega), ea9]; rfl) ?_
          refine lv_astore_n hx hb d_TT_makeRoom_18 rfl hl (by decide) rfl (fun ls hl => ?_)
          have hl : lv_has ls 4 [(3, .ref a9), (2, .int (nI k)), (1, .ref b), (0, .ref (cd 0))] := hl
          refine lv_aload_n hx hb d_TT_makeRoom_19 rfl (lv_at hl 3 rfl) ?_
          refine lv_aload_n hx hb d_TT_makeRoom_20 rfl (lv_at hl 0 rfl) ?_
          refine r_call (va_runV (C := R_TT) (As := [.ref a9]) (rest := []) ⟨hx, hb, hml, hown, ht⟩ (k_TT_mayGo l dC dI cd kI kQ L isA bk sc ia qa rf ba N hC a9 haa9 hna9) (cwV 1 ht (gV tb_200 tb_202 ts_14 tb_1 tb_203) rfl rfl rfl (by decide +kernel) ⟨Nat.le_of_ble_eq_true rfl, Nat.le_of_ble_eq_true rfl⟩) ⟨rdP_blind, va_recv (q := (R_TT, F_TT, 8)) hK hP rfl (show (CW cd kI kQ L isA bk sc ia qa rf ba : va_W)[0]? = some _ from rfl), rd_pre hP hK⟩ rfl rfl hl.1 rfl (lv_room (Nat.le_of_ble_eq_true rfl)) d_TT_makeRoom_21 ⟨Nat.le_of_ble_eq_true rfl, Nat.le_of_ble_eq_true rfl⟩) (fun r10 hu => ?_)
          clear hu
          refine W.eq (g2 := F0 m 24 ls [.int r10]) rfl ?_
          refine lv_if_eq (tgt := 41) hx hb d_TT_makeRoom_24 (by decide) (fun h24_4 => ?_) (fun h24_4 => ?_)
          · have h24_4 := h24_4
            have i24_4 := ti_eq h24_4
            (try rw [l_0] at i24_4)
            refine lv_iinc (k := 1) (v := nI (k + 1)) hx hb d_TT_makeRoom_41 hl rfl ((nI_succ k).symm) (by decide) rfl (fun ls hl => ?_)
            have hl : lv_has ls 4 [(2, .int (nI (k + 1))), (3, .ref a9), (1, .ref b), (0, .ref (cd 0))] := hl
            refine lv_goto (tgt := 4) hx hb d_TT_makeRoom_44 (by decide) ?_
            have hl := lv_sub hl [0, 2, 3] (l' := [(2, .int (nI (k + 1))), (1, .ref b), (0, .ref (cd 0))]) rfl
            have hl : lv_has ls 4 [(2, .int (nI (k + 1))), (1, va_rf (some b)), (0, .ref (cd 0))] := hl
            exact ih_4 (k + 1) (some b) H _ ls (by omega) (by omega) (fun b h9 => by cases h9; exact ⟨hab, hnb⟩) hl hP hD hS
          · have h24_4 := h24_4
            have i24_4 := ti_ne h24_4
            (try rw [l_0] at i24_4)
            refine lv_aload_n hx hb d_TT_makeRoom_27 rfl (lv_at hl 2 rfl) ?_
            refine lv_ifnull hx hb d_TT_makeRoom_28 ?_
            refine lv_aload_n hx hb d_TT_makeRoom_31 rfl (lv_at hl 0 rfl) ?_
            refine lv_aload_n hx hb d_TT_makeRoom_32 rfl (lv_at hl 2 rfl) ?_
            obtain ⟨kq, hkq⟩ := pq_at (X := CX cd kI kQ sc ia qa) (kI := kI) (bk := bk) (rf := rf) (ba := ba) haa9 hna9
            refine r_call (va_runV (C := R_RQ) (As := [.ref b]) (rest := []) ⟨hx, hb, hml, hown, ht⟩ (k_RQ_goesBefore l dC dI cd kI kQ L isA bk sc ia qa rf ba N hC a9 haa9 hna9 b hab hnb) (cwV 1 ht (gV tb_205 tb_206 tb_207 tb_11 tb_208) rfl rfl rfl (by decide +kernel) ⟨Nat.le_of_ble_eq_true rfl, Nat.le_of_ble_eq_true rfl⟩) ⟨rdP_blind, va_recv (q := (R_RQ, F_RQ, 17)) hK hP rfl hkq, rd_pre hP hK⟩ rfl rfl hl.1 rfl (lv_room (Nat.le_of_ble_eq_true rfl)) d_TT_makeRoom_33 ⟨Nat.le_of_ble_eq_true rfl, Nat.le_of_ble_eq_true rfl⟩) (fun r11 hu => ?_)
            clear hu
            refine W.eq (g2 := F0 m 36 ls [.int r11]) rfl ?_
            refine lv_if_eq (tgt := 41) hx hb d_TT_makeRoom_36 (by decide) (fun h36_5 => ?_) (fun h36_5 => ?_)
            · have h36_5 := h36_5
              have i36_5 := ti_eq h36_5
              (try rw [l_0] at i36_5)
              refine lv_iinc (k := 1) (v := nI (k + 1)) hx hb d_TT_makeRoom_41 hl rfl ((nI_succ k).symm) (by decide) rfl (fun ls hl => ?_)
              have hl : lv_has ls 4 [(2, .int (nI (k + 1))), (3, .ref a9), (1, .ref b), (0, .ref (cd 0))] := hl
              refine lv_goto (tgt := 4) hx hb d_TT_makeRoom_44 (by decide) ?_
              have hl := lv_sub hl [0, 2, 3] (l' := [(2, .int (nI (k + 1))), (1, .ref b), (0, .ref (cd 0))]) rfl
              have hl : lv_has ls 4 [(2, .int (nI (k + 1))), (1, va_rf (some b)), (0, .ref (cd 0))] := hl
              exact ih_4 (k + 1) (some b) H _ ls (by omega) (by omega) (fun b h9 => by cases h9; exact ⟨hab, hnb⟩) hl hP hD hS
            · have h36_5 := h36_5
              have i36_5 := ti_ne h36_5
              (try rw [l_0] at i36_5)
              refine lv_aload_n hx hb d_TT_makeRoom_39 rfl (lv_at hl 0 rfl) ?_
              refine lv_astore_n hx hb d_TT_makeRoom_40 rfl hl (by decide) rfl (fun ls hl => ?_)
              have hl : lv_has ls 4 [(1, .ref a9), (3, .ref a9), (2, .int (nI k)), (0, .ref (cd 0))] := hl
              refine lv_iinc (k := 2) (v := nI (k + 1)) hx hb d_TT_makeRoom_41 hl rfl ((nI_succ k).symm) (by decide) rfl (fun ls hl => ?_)
              have hl : lv_has ls 4 [(2, .int (nI (k + 1))), (1, .ref a9), (3, .ref a9), (0, .ref (cd 0))] := hl
              refine lv_goto (tgt := 4) hx hb d_TT_makeRoom_44 (by decide) ?_
              have hl := lv_sub hl [0, 1, 3] (l' := [(2, .int (nI (k + 1))), (1, .ref a9), (0, .ref (cd 0))]) rfl
              have hl : lv_has ls 4 [(2, .int (nI (k + 1))), (1, va_rf (some a9)), (0, .ref (cd 0))] := hl
              exact ih_4 (k + 1) (some a9) H _ ls (by omega) (by omega) (fun b h9 => by cases h9; exact ⟨haa9, hna9⟩) hl hP hD hS
  have hl := lv_sub hl [0, 1, 2] (l' := [(2, .int 0), (1, .null), (0, .ref (cd 0))]) rfl
  have hl : lv_has ls 4 [(2, .int (nI 0)), (1, va_rf none), (0, .ref (cd 0))] := hl
  exact J_4 ((N - 0) + 1) 0 none s.heap _ ls (by omega) (by omega) (fun b h9 => by cases h9) hl hP hD hS
set_option maxHeartbeats 8000000 in
set_option maxRecDepth 100000 in
theorem k_TT_slotFor (l : Launch) (dC : Nat → ClassId) (dI : Nat → Nat → Nat) (cd : Nat → Nat) (kI kQ : ClassId) (L : List Nat) (isA : Nat → Bool) (bk : Nat → Nat) (sc : Nat → Int32) (ia : Nat → Nat → Int32) (qa : Nat → Nat → Option Nat) (rf ba : Nat → Nat → Int32) (sz Bd : Nat) (N : Nat) (hC : CI N L isA bk sc qa rf) (x y : Int32) : Met l y_TT_slotFor w_TT_slotFor ({ frames := 3, cells := 0, slots := 0, locals := 67 }) (frP (dC, dI) (CW cd kI kQ L isA bk sc ia qa rf ba) (CT kI kQ) sz Bd [.ref (cd 0), .int x, .int y]) (tQ (dC, dI) (cW cd kI kQ L isA bk) (va_A (CW cd kI kQ L isA bk sc ia qa rf ba) sz) vI (fun r u => sc = u.1 ∧ qa = u.2.2.1 ∧ ba = u.2.2.2.2 ∧ CI N L isA bk u.1 u.2.2.1 u.2.2.2.1 ∧ (r = -1 ∨ ∃ kzz, kzz < 24 ∧ r = nI kzz))) 0 0 (va_A (CW cd kI kQ L isA bk sc ia qa rf ba) sz) := by
  refine Met.ofW (cc := c_TT_slotFor) (maxL := 4) (ret := (some .int)) (by decide) rfl ?_
  intro p e s m args below meth c s₁ B hml hv
  obtain ⟨rfl, ⟨hsz, hBs⟩, hP, hK, hD0, hV⟩ := hv
  have hx := B.exec
  have hb := B.bytes
  have hr := B.returns
  have ht : ∀ w ∈ tb_, w.before _ s = true := fun w h => atoms_spec (ws := w_TT_slotFor) B.pre w (List.mem_cons_of_mem _ h)
  have hown : s.vm.findClass R_TT = some m.cls := findClass_of_methodNamed B.named
  have hlocks := B.notSynchronized
  subst hsz
  have hD := hD0.self (sz := s.heap.size)
  have hAB : ∀ q, va_A (CW cd kI kQ L isA bk sc ia qa rf ba) s.heap.size q → Bd ≤ q := fr_AB hD0 hBs
  generalize hAe : va_A (CW cd kI kQ L isA bk sc ia qa rf ba) s.heap.size = A at hD hAB ⊢
  have hA : ∀ q : Nat, s.heap.size ≤ q → A q := fun q h => by rw [← hAe]; exact Or.inr h
  have hS : va_S A s.heap s.heap [] := va_S.rf
  have hs : same [] sc sc := same.rf
  have hP : va_P (dC, dI) cls_ (CW cd kI kQ L isA bk sc ia qa rf ba) s.heap := hP
  have hl := lv_entry ([.ref (cd 0), .int x, .int y]) (n := 4) (Nat.le_of_ble_eq_true rfl)
  rw [lg_entry_eq]
  generalize (lg_sl ([.ref (cd 0), .int x, .int y]) ++ List.replicate (4 - (lg_sl ([.ref (cd 0), .int x, .int y])).length) Slot.unset).toArray = ls at hl ⊢
  have hl : lv_has ls 4 [(0, .ref (cd 0)), (1, .int x), (2, .int y)] := hl
  have hN := hC.1.1
  refine lv_aload_n hx hb d_TT_slotFor_0 rfl (lv_at hl 0 rfl) ?_
  refine va_get (D := (dC, dI)) (ci := 0) (v := .ref (cd 5)) (C := R_TT) (T := F_TT) (N := 8) hx hb ht in_TT hown hK hP 0 rfl rfl 3 (by decide) (ht _ tb_78) (fun _ h9 => h9) rfl d_TT_slotFor_1 ?_
  refine lv_iload_n hx hb d_TT_slotFor_4 rfl (lv_at hl 1 rfl) ?_
  refine lv_iload_n hx hb d_TT_slotFor_5 rfl (lv_at hl 2 rfl) ?_
  refine r_call (va_runV (C := R_DK) (As := [.int x, .int y]) (rest := []) ⟨hx, hb, hml, hown, ht⟩ (k_DK_slotOf l dC dI cd kI kQ L isA bk sc ia qa rf ba N hC x y) (cwV 2 ht (gV tb_184 tb_185 tb_186 tb_3 tb_187) rfl rfl rfl (by decide +kernel) ⟨Nat.le_of_ble_eq_true rfl, Nat.le_of_ble_eq_true rfl⟩) ⟨rdP_blind, va_recv (q := (R_DK, F_DK, 4)) hK hP rfl (show (CW cd kI kQ L isA bk sc ia qa rf ba : va_W)[5]? = some _ from rfl), rd_pre hP hK⟩ rfl rfl hl.1 rfl (lv_room (Nat.le_of_ble_eq_true rfl)) d_TT_slotFor_6 ⟨Nat.le_of_ble_eq_true rfl, Nat.le_of_ble_eq_true rfl⟩) (fun r1 hu => ?_)
  have hu1_0 := hu
  have hu1_0 : (r1 = -1 ∨ ∃ kzz, kzz < 24 ∧ r1 = nI kzz) := hu1_0
  refine W.eq (g2 := F0 m 9 ls [.int r1]) rfl ?_
  rcases hu1_0 with rfl | ⟨kz, hkz, rfl⟩
  · refine lv_istore_n hx hb d_TT_slotFor_9 rfl hl (by decide) rfl (fun ls hl => ?_)
    have hl : lv_has ls 4 [(3, .int (-1)), (0, .ref (cd 0)), (1, .int x), (2, .int y)] := hl
    refine lv_iload_n hx hb d_TT_slotFor_10 rfl (lv_at hl 0 rfl) ?_
    refine lv_iconst (v := -1) hx hb d_TT_slotFor_11 (by decide) ?_
    refine lv_icmp_eq (tgt := 17) hx hb d_TT_slotFor_12 (by decide) (fun _ => ?_) (fun h9 => absurd (rfl) h9)
    refine lv_aload_n hx hb d_TT_slotFor_17 rfl (lv_at hl 1 rfl) ?_
    refine va_get (D := (dC, dI)) (ci := 0) (v := .ref (cd 5)) (C := R_TT) (T := F_TT) (N := 8) hx hb ht in_TT hown hK hP 0 rfl rfl 3 (by decide) (ht _ tb_78) (fun _ h9 => h9) rfl d_TT_slotFor_18 ?_
    refine r_call (va_runV (C := R_DK) (As := []) (rest := []) ⟨hx, hb, hml, hown, ht⟩ (k_DK_freeSegments l dC dI cd kI kQ L isA bk sc ia qa rf ba N hC) (cwV 0 ht (gV tb_188 tb_189 tb_190 tb_3 tb_191) rfl rfl rfl (by decide +kernel) ⟨Nat.le_of_ble_eq_true rfl, Nat.le_of_ble_eq_true rfl⟩) ⟨rdP_blind, va_recv (q := (R_DK, F_DK, 4)) hK hP rfl (show (CW cd kI kQ L isA bk sc ia qa rf ba : va_W)[5]? = some _ from rfl), rd_pre hP hK⟩ rfl rfl hl.1 rfl (lv_room (Nat.le_of_ble_eq_true rfl)) d_TT_slotFor_21 ⟨Nat.le_of_ble_eq_true rfl, Nat.le_of_ble_eq_true rfl⟩) (fun r2 hu => ?_)
    clear hu
    refine W.eq (g2 := F0 m 24 ls [.int r2]) rfl ?_
    refine lv_if_ne (tgt := 31) hx hb d_TT_slotFor_24 (by decide) (fun h24_1 => ?_) (fun h24_1 => ?_)
    · have h24_1 := h24_1
      have i24_1 := ti_ne h24_1
      (try rw [l_0] at i24_1)
      refine lv_aload_n hx hb d_TT_slotFor_31 rfl (lv_at hl 1 rfl) ?_
      refine va_get (D := (dC, dI)) (ci := 0) (v := .ref (cd 5)) (C := R_TT) (T := F_TT) (N := 8) hx hb ht in_TT hown hK hP 0 rfl rfl 3 (by decide) (ht _ tb_78) (fun _ h9 => h9) rfl d_TT_slotFor_32 ?_
      refine lv_iload_n hx hb d_TT_slotFor_35 rfl (lv_at hl 2 rfl) ?_
      refine lv_iload_n hx hb d_TT_slotFor_36 rfl (lv_at hl 3 rfl) ?_
      refine t_call (u0 := (sc, ia, qa, rf, ba)) (va_runV (C := R_DK) (As := [.int x, .int y]) (rest := []) ⟨hx, hb, hml, hown, ht⟩ (k_DK_take l dC dI cd kI kQ L isA bk sc ia qa rf ba s.heap.size Bd N hC x y) (cwV 2 ht (gV tb_217 tb_218 tb_219 tb_3 tb_220) rfl rfl rfl (by decide +kernel) ⟨Nat.le_of_ble_eq_true rfl, Nat.le_of_ble_eq_true rfl⟩) ⟨frP_blind, va_recv (q := (R_DK, F_DK, 4)) hK hP rfl (show (CW cd kI kQ L isA bk sc ia qa rf ba : va_W)[5]? = some _ from rfl), fr_pre hP hK hD hAB hBs hS hV⟩ rfl rfl hl.1 rfl (lv_room (Nat.le_of_ble_eq_true rfl)) d_TT_slotFor_37 ⟨Nat.le_of_ble_eq_true rfl, Nat.le_of_ble_eq_true rfl⟩) hD hS hA (fun r3 u H locs hu hP hD hS => ?_)
      obtain ⟨sc4, ia5, qa6, rf7, ba8⟩ := u
      obtain ⟨hu3_0, hu3_1, hu3_2, hu3_3, hu3_4, hu3_5⟩ := hu
      have hu3_0 : sc = sc4 := hu3_0
      have hu3_1 : qa = qa6 := hu3_1
      have hu3_2 : rf = rf7 := hu3_2
      have hu3_3 : ba = ba8 := hu3_3
      have hu3_4 : CI N L isA bk sc4 qa6 rf7 := hu3_4
      have hu3_5 : (r3 = -1 ∨ ∃ kzz, kzz < 24 ∧ r3 = nI kzz) := hu3_5
      subst hu3_0
      subst hu3_1
      subst hu3_2
      subst hu3_3
      have hu3_5 : (r3 = -1 ∨ ∃ kzz, kzz < 24 ∧ r3 = nI kzz) := hu3_5
      have hP : va_P (dC, dI) cls_ (CW cd kI kQ L isA bk sc ia5 qa rf ba) H := hP
      have hD : va_D A (CW cd kI kQ L isA bk sc ia5 qa rf ba) := hD
      have hC : CI N L isA bk sc qa rf := hu3_4
      refine W.eq (g2 := F0 m 40 ls [.int r3]) rfl ?_
      refine W.cs (cells' := 0) (slots' := 0) rfl rfl ?_
      have hz0 : ((r3 : Int32) = -1 ∨ ∃ kzz, kzz < 24 ∧ (r3 : Int32) = nI kzz) := hu3_5
      exact W.iret (v := r3) hx hb hr (fun t ht9 hW => ⟨⟨r3, (sc, ia5, qa, rf, ba), rfl, ⟨rfl, rfl, rfl, hC, hz0⟩, by rw [ht9]; exact hP, hD⟩, hS.F ht9⟩) hS.2.2 d_TT_slotFor_40
    · have h24_1 := h24_1
      have i24_1 := ti_eq h24_1
      (try rw [l_0] at i24_1)
      refine lv_aload_n hx hb d_TT_slotFor_27 rfl (lv_at hl 1 rfl) ?_
      refine t_call (u0 := (sc, ia, qa, rf, ba)) (va_runV (C := R_TT) (As := []) (rest := []) ⟨hx, hb, hml, hown, ht⟩ (k_TT_makeRoom l dC dI cd kI kQ L isA bk sc ia qa rf ba s.heap.size Bd N hC) (cwV 0 ht (gV tb_196 tb_198 ts_13 tb_1 tb_199) rfl rfl rfl (by decide +kernel) ⟨Nat.le_of_ble_eq_true rfl, Nat.le_of_ble_eq_true rfl⟩) ⟨frP_blind, va_recv (q := (R_TT, F_TT, 8)) hK hP rfl (show (CW cd kI kQ L isA bk sc ia qa rf ba : va_W)[0]? = some _ from rfl), fr_pre hP hK hD hAB hBs hS hV⟩ rfl rfl hl.1 rfl (lv_room (Nat.le_of_ble_eq_true rfl)) d_TT_slotFor_28 ⟨Nat.le_of_ble_eq_true rfl, Nat.le_of_ble_eq_true rfl⟩) hD hS hA (fun r9 u H locs hu hP hD hS => ?_)
      obtain ⟨sc10, ia11, qa12, rf13, ba14⟩ := u
      obtain ⟨hu9_0, hu9_1, hu9_2, hu9_3⟩ := hu
      have hu9_0 : sc = sc10 := hu9_0
      have hu9_1 : qa = qa12 := hu9_1
      have hu9_2 : ba = ba14 := hu9_2
      have hu9_3 : CI N L isA bk sc10 qa12 rf13 := hu9_3
      subst hu9_0
      subst hu9_1
      subst hu9_2
      have hP : va_P (dC, dI) cls_ (CW cd kI kQ L isA bk sc ia11 qa rf13 ba) H := hP
      have hD : va_D A (CW cd kI kQ L isA bk sc ia11 qa rf13 ba) := hD
      have hC : CI N L isA bk sc qa rf13 := hu9_3
      refine W.eq (g2 := F0 m 31 ls []) rfl ?_
      refine W.cs (cells' := 0) (slots' := 0) rfl rfl ?_
      refine lv_aload_n hx hb d_TT_slotFor_31 rfl (lv_at hl 1 rfl) ?_
      refine va_get (D := (dC, dI)) (ci := 0) (v := .ref (cd 5)) (C := R_TT) (T := F_TT) (N := 8) hx hb ht in_TT hown hK hP 0 rfl rfl 3 (by decide) (ht _ tb_78) (fun _ h9 => h9) rfl d_TT_slotFor_32 ?_
      refine lv_iload_n hx hb d_TT_slotFor_35 rfl (lv_at hl 2 rfl) ?_
      refine lv_iload_n hx hb d_TT_slotFor_36 rfl (lv_at hl 3 rfl) ?_
      refine t_call (u0 := (sc, ia11, qa, rf13, ba)) (va_runV (C := R_DK) (As := [.int x, .int y]) (rest := []) ⟨hx, hb, hml, hown, ht⟩ (k_DK_take l dC dI cd kI kQ L isA bk sc ia11 qa rf13 ba H.size Bd N hC x y) (cwV 2 ht (gV tb_217 tb_218 tb_219 tb_3 tb_220) rfl rfl rfl (by decide +kernel) ⟨Nat.le_of_ble_eq_true rfl, Nat.le_of_ble_eq_true rfl⟩) ⟨frP_blind, va_recv (q := (R_DK, F_DK, 4)) hK hP rfl (show (CW cd kI kQ L isA bk sc ia11 qa rf13 ba : va_W)[5]? = some _ from rfl), fr_pre hP hK hD hAB hBs hS hV⟩ rfl rfl hl.1 rfl (lv_room (Nat.le_of_ble_eq_true rfl)) d_TT_slotFor_37 ⟨Nat.le_of_ble_eq_true rfl, Nat.le_of_ble_eq_true rfl⟩) hD hS hA (fun r15 u H locs hu hP hD hS => ?_)
      obtain ⟨sc16, ia17, qa18, rf19, ba20⟩ := u
      obtain ⟨hu15_0, hu15_1, hu15_2, hu15_3, hu15_4, hu15_5⟩ := hu
      have hu15_0 : sc = sc16 := hu15_0
      have hu15_1 : qa = qa18 := hu15_1
      have hu15_2 : rf13 = rf19 := hu15_2
      have hu15_3 : ba = ba20 := hu15_3
      have hu15_4 : CI N L isA bk sc16 qa18 rf19 := hu15_4
      have hu15_5 : (r15 = -1 ∨ ∃ kzz, kzz < 24 ∧ r15 = nI kzz) := hu15_5
      subst hu15_0
      subst hu15_1
      subst hu15_2
      subst hu15_3
      have hu15_5 : (r15 = -1 ∨ ∃ kzz, kzz < 24 ∧ r15 = nI kzz) := hu15_5
      have hP : va_P (dC, dI) cls_ (CW cd kI kQ L isA bk sc ia17 qa rf13 ba) H := hP
      have hD : va_D A (CW cd kI kQ L isA bk sc ia17 qa rf13 ba) := hD
      have hC : CI N L isA bk sc qa rf13 := hu15_4
      refine W.eq (g2 := F0 m 40 ls [.int r15]) rfl ?_
      refine W.cs (cells' := 0) (slots' := 0) rfl rfl ?_
      have hz0 : ((r15 : Int32) = -1 ∨ ∃ kzz, kzz < 24 ∧ (r15 : Int32) = nI kzz) := hu15_5
      exact W.iret (v := r15) hx hb hr (fun t ht9 hW => ⟨⟨r15, (sc, ia17, qa, rf13, ba), rfl, ⟨rfl, rfl, rfl, hC, hz0⟩, by rw [ht9]; exact hP, hD⟩, hS.F ht9⟩) hS.2.2 d_TT_slotFor_40
  · refine lv_istore_n hx hb d_TT_slotFor_9 rfl hl (by decide) rfl (fun ls hl => ?_)
    have hl : lv_has ls 4 [(3, .int (nI kz)), (0, .ref (cd 0)), (1, .int x), (2, .int y)] := hl
    refine lv_iload_n hx hb d_TT_slotFor_10 rfl (lv_at hl 0 rfl) ?_
    refine lv_iconst (v := -1) hx hb d_TT_slotFor_11 (by decide) ?_
    refine lv_icmp_eq (tgt := 17) hx hb d_TT_slotFor_12 (by decide) (fun h9 => absurd h9 (fun h9 => absurd (ti_eq h9) (by rw [nI_toInt (by omega), l_m1]; omega))) (fun _ => ?_)
    refine lv_iload_n hx hb d_TT_slotFor_15 rfl (lv_at hl 0 rfl) ?_
    have hz0 : ((nI kz : Int32) = -1 ∨ ∃ kzz, kzz < 24 ∧ (nI kz : Int32) = nI kzz) := Or.inr ⟨kz, hkz, rfl⟩
    exact W.iret (v := nI kz) hx hb hr (fun t ht9 hW => ⟨⟨nI kz, (sc, ia, qa, rf, ba), rfl, ⟨rfl, rfl, rfl, hC, hz0⟩, by rw [ht9]; exact hP, hD⟩, hS.F ht9⟩) hS.2.2 d_TT_slotFor_16
set_option maxHeartbeats 8000000 in
set_option maxRecDepth 100000 in
theorem k_TT_recordSecond (l : Launch) (dC : Nat → ClassId) (dI : Nat → Nat → Nat) (cd : Nat → Nat) (kI kQ : ClassId) (L : List Nat) (isA : Nat → Bool) (bk : Nat → Nat) (sc : Nat → Int32) (ia : Nat → Nat → Int32) (qa : Nat → Nat → Option Nat) (rf ba : Nat → Nat → Int32) (sz Bd : Nat) (N : Nat) (hC : CI N L isA bk sc qa rf) (a : Nat) (ha : a ∈ L) (hn : isA a = false)  : Met l y_TT_recordSecond w_TT_recordSecond ({ frames := 4, cells := 0, slots := 0, locals := 90 }) (frP (dC, dI) (CW cd kI kQ L isA bk sc ia qa rf ba) (CT kI kQ) sz Bd [.ref (cd 0), .ref a]) (tQ (dC, dI) (cW cd kI kQ L isA bk) (va_A (CW cd kI kQ L isA bk sc ia qa rf ba) sz) vI (fun r u => sc = u.1 ∧ qa = u.2.2.1 ∧ ba = u.2.2.2.2 ∧ CI N L isA bk u.1 u.2.2.1 u.2.2.2.1)) 0 0 (va_A (CW cd kI kQ L isA bk sc ia qa rf ba) sz) := by
  refine Met.ofW (cc := c_TT_recordSecond) (maxL := 4) (ret := (some .boolean)) (by decide) rfl ?_
  intro p e s m args below meth c s₁ B hml hv
  obtain ⟨rfl, ⟨hsz, hBs⟩, hP, hK, hD0, hV⟩ := hv
  have hx := B.exec
  have hb := B.bytes
  have hr := B.returns
  have ht : ∀ w ∈ tb_, w.before _ s = true := fun w h => atoms_spec (ws := w_TT_recordSecond) B.pre w (List.mem_cons_of_mem _ h)
  have hown : s.vm.findClass R_TT = some m.cls := findClass_of_methodNamed B.named
  have hlocks := B.notSynchronized
  subst hsz
  have hD := hD0.self (sz := s.heap.size)
  have hAB : ∀ q, va_A (CW cd kI kQ L isA bk sc ia qa rf ba) s.heap.size q → Bd ≤ q := fr_AB hD0 hBs
  generalize hAe : va_A (CW cd kI kQ L isA bk sc ia qa rf ba) s.heap.size = A at hD hAB ⊢
  have hA : ∀ q : Nat, s.heap.size ≤ q → A q := fun q h => by rw [← hAe]; exact Or.inr h
  have hS : va_S A s.heap s.heap [] := va_S.rf
  have hs : same [] sc sc := same.rf
  have hP : va_P (dC, dI) cls_ (CW cd kI kQ L isA bk sc ia qa rf ba) s.heap := hP
  have hl := lv_entry ([.ref (cd 0), .ref a]) (n := 4) (Nat.le_of_ble_eq_true rfl)
  rw [lg_entry_eq]
  generalize (lg_sl ([.ref (cd 0), .ref a]) ++ List.replicate (4 - (lg_sl ([.ref (cd 0), .ref a])).length) Slot.unset).toArray = ls at hl ⊢
  have hl : lv_has ls 4 [(0, .ref (cd 0)), (1, .ref a)] := hl
  have hN := hC.1.1
  refine lv_aload_n hx hb d_TT_recordSecond_0 rfl (lv_at hl 0 rfl) ?_
  refine va_get (D := (dC, dI)) (ci := 0) (v := .int (sc 1)) (C := R_TT) (T := F_TT) (N := 8) hx hb ht in_TT hown hK hP 0 rfl rfl 6 (by decide) (ht _ tb_81) (fun _ h9 => h9) rfl d_TT_recordSecond_1 ?_
  refine lv_aload_n hx hb d_TT_recordSecond_4 rfl (lv_at hl 1 rfl) ?_
  obtain ⟨kq, hkq⟩ := pq_at (X := CX cd kI kQ sc ia qa) (kI := kI) (bk := bk) (rf := rf) (ba := ba) ha hn
  refine va_get (D := (dC, dI)) (ci := 4) (v := .int (rf a 9)) (C := R_RQ) (T := F_RQ) (N := 17) hx hb ht in_RQ hown hK hP kq hkq rfl 9 (by decide) (ht _ tb_395) (fun _ h9 => h9) rfl d_TT_recordSecond_5 ?_
  refine lv_isub hx hb d_TT_recordSecond_8 ?_
  refine lv_istore_n hx hb d_TT_recordSecond_9 rfl hl (by decide) rfl (fun ls hl => ?_)
  have hl : lv_has ls 4 [(2, .int ((sc 1) - (rf a 9))), (0, .ref (cd 0)), (1, .ref a)] := hl
  refine lv_aload_n hx hb d_TT_recordSecond_10 rfl (lv_at hl 1 rfl) ?_
  refine lv_aload_n hx hb d_TT_recordSecond_11 rfl (lv_at hl 2 rfl) ?_
  obtain ⟨kq, hkq⟩ := pq_at (X := CX cd kI kQ sc ia qa) (kI := kI) (bk := bk) (rf := rf) (ba := ba) ha hn
  refine va_get (D := (dC, dI)) (ci := 4) (v := .int (rf a 0)) (C := R_RQ) (T := F_RQ) (N := 17) hx hb ht in_RQ hown hK hP kq hkq rfl 0 (by decide) (ht _ tb_373) (fun _ h9 => h9) rfl d_TT_recordSecond_12 ?_
  refine lv_iload_n hx hb d_TT_recordSecond_15 rfl (lv_at hl 0 rfl) ?_
  refine lv_iconst (v := 4) hx hb d_TT_recordSecond_16 (by decide) ?_
  refine lv_idiv hx hb d_TT_recordSecond_17 (by decide) ?_
  refine lv_topi (fun z1 _ => ?_)
  refine t_call (u0 := (sc, ia, qa, rf, ba)) (va_runV (C := R_TT) (As := [.int (rf a 0), .int z1]) (rest := []) ⟨hx, hb, hml, hown, ht⟩ (k_TT_slotFor l dC dI cd kI kQ L isA bk sc ia qa rf ba s.heap.size Bd N hC (rf a 0) z1) (cwV 2 ht (gV tb_180 tb_182 ts_12 tb_1 tb_183) rfl rfl rfl (by decide +kernel) ⟨Nat.le_of_ble_eq_true rfl, Nat.le_of_ble_eq_true rfl⟩) ⟨frP_blind, va_recv (q := (R_TT, F_TT, 8)) hK hP rfl (show (CW cd kI kQ L isA bk sc ia qa rf ba : va_W)[0]? = some _ from rfl), fr_pre hP hK hD hAB hBs hS hV⟩ rfl rfl hl.1 rfl (lv_room (Nat.le_of_ble_eq_true rfl)) d_TT_recordSecond_18 ⟨Nat.le_of_ble_eq_true rfl, Nat.le_of_ble_eq_true rfl⟩) hD hS hA (fun r2 u H locs hu hP hD hS => ?_)
  obtain ⟨sc3, ia4, qa5, rf6, ba7⟩ := u
  obtain ⟨hu2_0, hu2_1, hu2_2, hu2_3, hu2_4⟩ := hu
  have hu2_0 : sc = sc3 := hu2_0
  have hu2_1 : qa = qa5 := hu2_1
  have hu2_2 : ba = ba7 := hu2_2
  have hu2_3 : CI N L isA bk sc3 qa5 rf6 := hu2_3
  have hu2_4 : (r2 = -1 ∨ ∃ kzz, kzz < 24 ∧ r2 = nI kzz) := hu2_4
  subst hu2_0
  subst hu2_1
  subst hu2_2
  have hu2_4 : (r2 = -1 ∨ ∃ kzz, kzz < 24 ∧ r2 = nI kzz) := hu2_4
  have hP : va_P (dC, dI) cls_ (CW cd kI kQ L isA bk sc ia4 qa rf6 ba) H := hP
  have hD : va_D A (CW cd kI kQ L isA bk sc ia4 qa rf6 ba) := hD
  have hC : CI N L isA bk sc qa rf6 := hu2_3
  refine W.eq (g2 := F0 m 21 ls [.int r2]) rfl ?_
  refine W.cs (cells' := 0) (slots' := 0) rfl rfl ?_
  rcases hu2_4 with rfl | ⟨kz, hkz, rfl⟩
  · refine lv_istore_n hx hb d_TT_recordSecond_21 rfl hl (by decide) rfl (fun ls hl => ?_)
    have hl : lv_has ls 4 [(3, .int (-1)), (2, .int ((sc 1) - (rf a 9))), (0, .ref (cd 0)), (1, .ref a)] := hl
    refine lv_iload_n hx hb d_TT_recordSecond_22 rfl (lv_at hl 0 rfl) ?_
    refine lv_iconst (v := -1) hx hb d_TT_recordSecond_23 (by decide) ?_
    refine lv_icmp_ne (tgt := 39) hx hb d_TT_recordSecond_24 (by decide) (fun h9 => absurd (rfl) h9) (fun _ => ?_)
    refine lv_aload_n hx hb d_TT_recordSecond_27 rfl (lv_at hl 3 rfl) ?_
    refine lv_dup hx hb d_TT_recordSecond_28 rfl ?_
    obtain ⟨kq, hkq⟩ := pq_at (X := CX cd kI kQ sc ia4 qa) (kI := kI) (bk := bk) (rf := rf6) (ba := ba) ha hn
    refine va_get (D := (dC, dI)) (ci := 4) (v := .int (rf6 a 13)) (C := R_RQ) (T := F_RQ) (N := 17) hx hb ht in_RQ hown hK hP kq hkq rfl 13 (by decide) (ht _ tb_406) (fun _ h9 => h9) rfl d_TT_recordSecond_29 ?_
    refine lv_iconst (v := 1) hx hb d_TT_recordSecond_32 (by decide) ?_
    refine lv_iadd hx hb d_TT_recordSecond_33 ?_
    obtain ⟨kq, hkq⟩ := pq_at (X := CX cd kI kQ sc ia4 qa) (kI := kI) (bk := bk) (rf := rf6) (ba := ba) ha hn
    have hD0 := hD
    refine va_put (D := (dC, dI)) (ci := 4) (v := .int ((rf6 a 13) + 1)) (ty := .int) (C := R_RQ) (T := F_RQ) (N := 17) hx hb ht in_RQ t_RQ t_RQ_ok n_RQ hown hK hP hD hS kq hkq rfl 13 (by decide) (ht _ tb_406) (fun _ h9 => h9) rfl (by decide +kernel) rfl rfl (Nat.le_of_ble_eq_true rfl) d_TT_recordSecond_34 (fun H locs hP hD hS => ?_)
    rw [pq_set hD0 ha hn hkq rfl] at hP hD
    have hP : va_P (dC, dI) cls_ (CW cd kI kQ L isA bk sc ia4 qa (va_up rf6 a (va_up (rf6 a) 13 ((rf6 a 13) + 1))) ba) H := hP
    have hD : va_D A (CW cd kI kQ L isA bk sc ia4 qa (va_up rf6 a (va_up (rf6 a) 13 ((rf6 a 13) + 1))) ba) := hD
    obtain ⟨rf8, erf8⟩ : ∃ q9_, q9_ = va_up rf6 a (va_up (rf6 a) 13 ((rf6 a 13) + 1)) := ⟨_, rfl⟩
    rw [← erf8] at hP hD
    have hC : CI N L isA bk sc qa rf8 := by rw [erf8]; exact CI_r hC (by decide) (Or.inl (by decide))
    refine lv_iconst (v := 0) hx hb d_TT_recordSecond_37 (by decide) ?_
    exact W.zret (v := 0) hx hb hr rfl (fun t ht9 hW => ⟨⟨0, (sc, ia4, qa, rf8, ba), rfl, ⟨rfl, rfl, rfl, hC⟩, by rw [ht9]; exact hP, hD⟩, hS.F ht9⟩) hS.2.2 d_TT_recordSecond_38
  · refine lv_istore_n hx hb d_TT_recordSecond_21 rfl hl (by decide) rfl (fun ls hl => ?_)
    have hl : lv_has ls 4 [(3, .int (nI kz)), (2, .int ((sc 1) - (rf a 9))), (0, .ref (cd 0)), (1, .ref a)] := hl
    refine lv_iload_n hx hb d_TT_recordSecond_22 rfl (lv_at hl 0 rfl) ?_
    refine lv_iconst (v := -1) hx hb d_TT_recordSecond_23 (by decide) ?_
    refine lv_icmp_ne (tgt := 39) hx hb d_TT_recordSecond_24 (by decide) (fun _ => ?_) (fun h9 => absurd h9 (fun h9 => absurd (ti_eq h9) (by rw [nI_toInt (by omega), l_m1]; omega)))
    refine lv_aload_n hx hb d_TT_recordSecond_39 rfl (lv_at hl 2 rfl) ?_
    refine va_get (D := (dC, dI)) (ci := 0) (v := .ref (cd 5)) (C := R_TT) (T := F_TT) (N := 8) hx hb ht in_TT hown hK hP 0 rfl rfl 3 (by decide) (ht _ tb_78) (fun _ h9 => h9) rfl d_TT_recordSecond_40 ?_
    refine lv_iload_n hx hb d_TT_recordSecond_43 rfl (lv_at hl 0 rfl) ?_
    refine lv_iload_n hx hb d_TT_recordSecond_44 rfl (lv_at hl 1 rfl) ?_
    refine lv_iconst (v := 4) hx hb d_TT_recordSecond_45 (by decide) ?_
    refine lv_irem hx hb d_TT_recordSecond_46 (by decide) ?_
    refine lv_topi (fun z9 _ => ?_)
    refine lv_aload_n hx hb d_TT_recordSecond_47 rfl (lv_at hl 2 rfl) ?_
    refine va_get (D := (dC, dI)) (ci := 0) (v := .ref (cd 2)) (C := R_TT) (T := F_TT) (N := 8) hx hb ht in_TT hown hK hP 0 rfl rfl 1 (by decide) (ht _ tb_76) (fun _ h9 => h9) rfl d_TT_recordSecond_48 ?_
    refine lv_aload_n hx hb d_TT_recordSecond_51 rfl (lv_at hl 3 rfl) ?_
    obtain ⟨kq, hkq⟩ := pq_at (X := CX cd kI kQ sc ia4 qa) (kI := kI) (bk := bk) (rf := rf6) (ba := ba) ha hn
    refine va_get (D := (dC, dI)) (ci := 4) (v := .int (rf6 a 1)) (C := R_RQ) (T := F_RQ) (N := 17) hx hb ht in_RQ hown hK hP kq hkq rfl 1 (by decide) (ht _ tb_376) (fun _ h9 => h9) rfl d_TT_recordSecond_52 ?_
    refine va_iald hx hb hK hP 2 0 rfl rfl (by have h9 := (hC.2.2.2.2.2.2 a ha hn).1; exact in_of h9.1 (by omega)) d_TT_recordSecond_55 ?_
    refine t_call (u0 := (sc, ia4, qa, rf6, ba)) (va_runV (C := R_DK) (As := [.int (nI kz), .int z9, .int (ia4 0 ((rf6 a 1).toNatClampNeg))]) (rest := []) ⟨hx, hb, hml, hown, ht⟩ (k_DK_write l dC dI cd kI kQ L isA bk sc ia4 qa rf6 ba H.size Bd N hC (nI kz) z9 (ia4 0 ((rf6 a 1).toNatClampNeg))) (cwV 3 ht (gV tb_221 tb_222 tb_223 tb_3 tb_224) rfl rfl rfl (by decide +kernel) ⟨Nat.le_of_ble_eq_true rfl, Nat.le_of_ble_eq_true rfl⟩) ⟨frP_blind, va_recv (q := (R_DK, F_DK, 4)) hK hP rfl (show (CW cd kI kQ L isA bk sc ia4 qa rf6 ba : va_W)[5]? = some _ from rfl), fr_pre hP hK hD hAB hBs hS hV⟩ rfl rfl hl.1 rfl (lv_room (Nat.le_of_ble_eq_true rfl)) d_TT_recordSecond_56 ⟨Nat.le_of_ble_eq_true rfl, Nat.le_of_ble_eq_true rfl⟩) hD hS hA (fun r10 u H locs hu hP hD hS => ?_)
    obtain ⟨sc11, ia12, qa13, rf14, ba15⟩ := u
    obtain ⟨hu10_0, hu10_1, hu10_2, hu10_3, hu10_4⟩ := hu
    have hu10_0 : sc = sc11 := hu10_0
    have hu10_1 : qa = qa13 := hu10_1
    have hu10_2 : rf6 = rf14 := hu10_2
    have hu10_3 : ba = ba15 := hu10_3
    have hu10_4 : CI N L isA bk sc11 qa13 rf14 := hu10_4
    subst hu10_0
    subst hu10_1
    subst hu10_2
    subst hu10_3
    have hP : va_P (dC, dI) cls_ (CW cd kI kQ L isA bk sc ia12 qa rf6 ba) H := hP
    have hD : va_D A (CW cd kI kQ L isA bk sc ia12 qa rf6 ba) := hD
    have hC : CI N L isA bk sc qa rf6 := hu10_4
    refine W.eq (g2 := F0 m 59 ls []) rfl ?_
    refine W.cs (cells' := 0) (slots' := 0) rfl rfl ?_
    refine lv_iconst (v := 1) hx hb d_TT_recordSecond_59 (by decide) ?_
    exact W.zret (v := 1) hx hb hr rfl (fun t ht9 hW => ⟨⟨1, (sc, ia12, qa, rf6, ba), rfl, ⟨rfl, rfl, rfl, hC⟩, by rw [ht9]; exact hP, hD⟩, hS.F ht9⟩) hS.2.2 d_TT_recordSecond_60
set_option maxHeartbeats 8000000 in
set_option maxRecDepth 100000 in
theorem k_TT_keepWatched (l : Launch) (dC : Nat → ClassId) (dI : Nat → Nat → Nat) (cd : Nat → Nat) (kI kQ : ClassId) (L : List Nat) (isA : Nat → Bool) (bk : Nat → Nat) (sc : Nat → Int32) (ia : Nat → Nat → Int32) (qa : Nat → Nat → Option Nat) (rf ba : Nat → Nat → Int32) (sz Bd : Nat) (N : Nat) (hC : CI N L isA bk sc qa rf) (x : Int32) (hw : 0 ≤ (sc 2).toInt) : Met l y_TT_keepWatched w_TT_keepWatched ({ frames := 2, cells := 0, slots := 0, locals := 51 }) (frP (dC, dI) (CW cd kI kQ L isA bk sc ia qa rf ba) (CT kI kQ) sz Bd [.ref (cd 0), .int x]) (tQ (dC, dI) (cW cd kI kQ L isA bk) (va_A (CW cd kI kQ L isA bk sc ia qa rf ba) sz) vN (fun r u => same [4, 5] sc u.1 ∧ qa = u.2.2.1 ∧ rf = u.2.2.2.1 ∧ ba = u.2.2.2.2 ∧ CI N L isA bk u.1 u.2.2.1 u.2.2.2.1)) 0 0 (va_A (CW cd kI kQ L isA bk sc ia qa rf ba) sz) := by
  refine Met.ofW (cc := c_TT_keepWatched) (maxL := 2) (ret := none) (by decide) rfl ?_
  intro p e s m args below meth c s₁ B hml hv
  obtain ⟨rfl, ⟨hsz, hBs⟩, hP, hK, hD0, hV⟩ := hv
  have hx := B.exec
  have hb := B.bytes
  have hr := B.returns
  have ht : ∀ w ∈ tb_, w.before _ s = true := fun w h => atoms_spec (ws := w_TT_keepWatched) B.pre w (List.mem_cons_of_mem _ h)
  have hown : s.vm.findClass R_TT = some m.cls := findClass_of_methodNamed B.named
  have hlocks := B.notSynchronized
  subst hsz
  have hD := hD0.self (sz := s.heap.size)
  have hAB : ∀ q, va_A (CW cd kI kQ L isA bk sc ia qa rf ba) s.heap.size q → Bd ≤ q := fr_AB hD0 hBs
  generalize hAe : va_A (CW cd kI kQ L isA bk sc ia qa rf ba) s.heap.size = A at hD hAB ⊢
  have hA : ∀ q : Nat, s.heap.size ≤ q → A q := fun q h => by rw [← hAe]; exact Or.inr h
  have hS : va_S A s.heap s.heap [] := va_S.rf
  have hs : same [4, 5] sc sc := same.rf
  have hP : va_P (dC, dI) cls_ (CW cd kI kQ L isA bk sc ia qa rf ba) s.heap := hP
  have hl := lv_entry ([.ref (cd 0), .int x]) (n := 2) (Nat.le_of_ble_eq_true rfl)
  rw [lg_entry_eq]
  generalize (lg_sl ([.ref (cd 0), .int x]) ++ List.replicate (2 - (lg_sl ([.ref (cd 0), .int x])).length) Slot.unset).toArray = ls at hl ⊢
  have hl : lv_has ls 2 [(0, .ref (cd 0)), (1, .int x)] := hl
  have hN := hC.1.1
  refine lv_iload_n hx hb d_TT_keepWatched_0 rfl (lv_at hl 1 rfl) ?_
  refine lv_if_eq (tgt := 23) hx hb d_TT_keepWatched_1 (by decide) (fun h1_1 => ?_) (fun h1_1 => ?_)
  · have h1_1 := h1_1
    have i1_1 := ti_eq h1_1
    (try rw [l_0] at i1_1)
    refine lv_aload_n hx hb d_TT_keepWatched_23 rfl (lv_at hl 0 rfl) ?_
    refine va_get (D := (dC, dI)) (ci := 0) (v := .ref (cd 10)) (C := R_TT) (T := F_TT) (N := 8) hx hb ht in_TT hown hK hP 0 rfl rfl 4 (by decide) (ht _ tb_79) (fun _ h9 => h9) rfl d_TT_keepWatched_24 ?_
    refine t_call (u0 := (sc, ia, qa, rf, ba)) (va_runV (C := R_RW) (As := []) (rest := []) ⟨hx, hb, hml, hown, ht⟩ (k_RW_forget l dC dI cd kI kQ L isA bk sc ia qa rf ba s.heap.size Bd N hC) (cwV 0 ht (gV tb_239 tb_240 tb_241 tb_4 tb_242) rfl rfl rfl (by decide +kernel) ⟨Nat.le_of_ble_eq_true rfl, Nat.le_of_ble_eq_true rfl⟩) ⟨frP_blind, va_recv (q := (R_RW, F_RW, 3)) hK hP rfl (show (CW cd kI kQ L isA bk sc ia qa rf ba : va_W)[10]? = some _ from rfl), fr_pre hP hK hD hAB hBs hS hV⟩ rfl rfl hl.1 rfl (lv_room (Nat.le_of_ble_eq_true rfl)) d_TT_keepWatched_27 ⟨Nat.le_of_ble_eq_true rfl, Nat.le_of_ble_eq_true rfl⟩) hD hS hA (fun r1 u H locs hu hP hD hS => ?_)
    obtain ⟨sc2, ia3, qa4, rf5, ba6⟩ := u
    obtain ⟨hu1_0, hu1_1, hu1_2, hu1_3, hu1_4, hu1_5⟩ := hu
    have hu1_0 : same [5] sc sc2 := hu1_0
    have hu1_1 : ia = ia3 := hu1_1
    have hu1_2 : qa = qa4 := hu1_2
    have hu1_3 : rf = rf5 := hu1_3
    have hu1_4 : ba = ba6 := hu1_4
    have hu1_5 : CI N L isA bk sc2 qa4 rf5 := hu1_5
    subst hu1_1
    subst hu1_2
    subst hu1_3
    subst hu1_4
    have hu1_0 : same [5] sc sc2 := hu1_0
    have hP : va_P (dC, dI) cls_ (CW cd kI kQ L isA bk sc2 ia qa rf ba) H := hP
    have hD : va_D A (CW cd kI kQ L isA bk sc2 ia qa rf ba) := hD
    have hC : CI N L isA bk sc2 qa rf := hu1_5
    have hs : same [4, 5] sc sc2 := hs.tr (hu1_0.wk (by decide))
    refine W.eq (g2 := F0 m 30 ls []) rfl ?_
    refine W.cs (cells' := 0) (slots' := 0) rfl rfl ?_
    exact W.vret hx hb hr (fun t ht9 hW => ⟨⟨(), (sc2, ia, qa, rf, ba), rfl, ⟨hs, rfl, rfl, rfl, hC⟩, by rw [ht9]; exact hP, hD⟩, hS.F ht9⟩) hS.2.2 d_TT_keepWatched_30
  · have h1_1 := h1_1
    have i1_1 := ti_ne h1_1
    (try rw [l_0] at i1_1)
    refine lv_aload_n hx hb d_TT_keepWatched_4 rfl (lv_at hl 0 rfl) ?_
    refine va_get (D := (dC, dI)) (ci := 0) (v := .ref (cd 10)) (C := R_TT) (T := F_TT) (N := 8) hx hb ht in_TT hown hK hP 0 rfl rfl 4 (by decide) (ht _ tb_79) (fun _ h9 => h9) rfl d_TT_keepWatched_5 ?_
    refine lv_aload_n hx hb d_TT_keepWatched_8 rfl (lv_at hl 0 rfl) ?_
    refine va_get (D := (dC, dI)) (ci := 0) (v := .ref (cd 2)) (C := R_TT) (T := F_TT) (N := 8) hx hb ht in_TT hown hK hP 0 rfl rfl 1 (by decide) (ht _ tb_76) (fun _ h9 => h9) rfl d_TT_keepWatched_9 ?_
    refine lv_aload_n hx hb d_TT_keepWatched_12 rfl (lv_at hl 0 rfl) ?_
    refine va_get (D := (dC, dI)) (ci := 0) (v := .int (sc 2)) (C := R_TT) (T := F_TT) (N := 8) hx hb ht in_TT hown hK hP 0 rfl rfl 7 (by decide) (ht _ tb_82) (fun _ h9 => h9) rfl d_TT_keepWatched_13 ?_
    refine va_iald hx hb hK hP 2 0 rfl rfl (by have h9 := hC.2.1; exact in_of hw (by omega)) d_TT_keepWatched_16 ?_
    refine t_call (u0 := (sc, ia, qa, rf, ba)) (va_runV (C := R_RW) (As := [.int (ia 0 ((sc 2).toNatClampNeg))]) (rest := []) ⟨hx, hb, hml, hown, ht⟩ (k_RW_keep l dC dI cd kI kQ L isA bk sc ia qa rf ba s.heap.size Bd N hC (ia 0 ((sc 2).toNatClampNeg))) (cwV 1 ht (gV tb_232 tb_233 tb_234 tb_4 tb_235) rfl rfl rfl (by decide +kernel) ⟨Nat.le_of_ble_eq_true rfl, Nat.le_of_ble_eq_true rfl⟩) ⟨frP_blind, va_recv (q := (R_RW, F_RW, 3)) hK hP rfl (show (CW cd kI kQ L isA bk sc ia qa rf ba : va_W)[10]? = some _ from rfl), fr_pre hP hK hD hAB hBs hS hV⟩ rfl rfl hl.1 rfl (lv_room (Nat.le_of_ble_eq_true rfl)) d_TT_keepWatched_17 ⟨Nat.le_of_ble_eq_true rfl, Nat.le_of_ble_eq_true rfl⟩) hD hS hA (fun r7 u H locs hu hP hD hS => ?_)
    obtain ⟨sc8, ia9, qa10, rf11, ba12⟩ := u
    obtain ⟨hu7_0, hu7_1, hu7_2, hu7_3, hu7_4⟩ := hu
    have hu7_0 : same [4, 5] sc sc8 := hu7_0
    have hu7_1 : qa = qa10 := hu7_1
    have hu7_2 : rf = rf11 := hu7_2
    have hu7_3 : ba = ba12 := hu7_3
    have hu7_4 : CI N L isA bk sc8 qa10 rf11 := hu7_4
    subst hu7_1
    subst hu7_2
    subst hu7_3
    have hu7_0 : same [4, 5] sc sc8 := hu7_0
    have hP : va_P (dC, dI) cls_ (CW cd kI kQ L isA bk sc8 ia9 qa rf ba) H := hP
    have hD : va_D A (CW cd kI kQ L isA bk sc8 ia9 qa rf ba) := hD
    have hC : CI N L isA bk sc8 qa rf := hu7_4
    have hs : same [4, 5] sc sc8 := hs.tr (hu7_0.wk (by decide))
    refine W.eq (g2 := F0 m 20 ls []) rfl ?_
    refine W.cs (cells' := 0) (slots' := 0) rfl rfl ?_
    refine lv_goto (tgt := 30) hx hb d_TT_keepWatched_20 (by decide) ?_
    exact W.vret hx hb hr (fun t ht9 hW => ⟨⟨(), (sc8, ia9, qa, rf, ba), rfl, ⟨hs, rfl, rfl, rfl, hC⟩, by rw [ht9]; exact hP, hD⟩, hS.F ht9⟩) hS.2.2 d_TT_keepWatched_30
set_option maxHeartbeats 8000000 in
set_option maxRecDepth 100000 in
theorem k_TT_passSecond (l : Launch) (dC : Nat → ClassId) (dI : Nat → Nat → Nat) (cd : Nat → Nat) (kI kQ : ClassId) (L : List Nat) (isA : Nat → Bool) (bk : Nat → Nat) (sc : Nat → Int32) (ia : Nat → Nat → Int32) (qa : Nat → Nat → Option Nat) (rf ba : Nat → Nat → Int32) (sz Bd : Nat) (N : Nat) (hC : CI N L isA bk sc qa rf) (x : Int32) : Met l y_TT_passSecond w_TT_passSecond ({ frames := 5, cells := 0, slots := 0, locals := 113 }) (frP (dC, dI) (CW cd kI kQ L isA bk sc ia qa rf ba) (CT kI kQ) sz Bd [.ref (cd 0), .int x]) (tQ (dC, dI) (cW cd kI kQ L isA bk) (va_A (CW cd kI kQ L isA bk sc ia qa rf ba) sz) vI (fun r u => same [1, 4, 5] sc u.1 ∧ qa = u.2.2.1 ∧ ba = u.2.2.2.2 ∧ CI N L isA bk u.1 u.2.2.1 u.2.2.2.1 ∧ u.1 1 = sc 1 + 1)) 0 0 (va_A (CW cd kI kQ L isA bk sc ia qa rf ba) sz) := by
  refine Met.ofW (cc := c_TT_passSecond) (maxL := 4) (ret := (some .int)) (by decide) rfl ?_
  intro p e s m args below meth c s₁ B hml hv
  obtain ⟨rfl, ⟨hsz, hBs⟩, hP, hK, hD0, hV⟩ := hv
  have hx := B.exec
  have hb := B.bytes
  have hr := B.returns
  have ht : ∀ w ∈ tb_, w.before _ s = true := fun w h => atoms_spec (ws := w_TT_passSecond) B.pre w (List.mem_cons_of_mem _ h)
  have hown : s.vm.findClass R_TT = some m.cls := findClass_of_methodNamed B.named
  have hlocks := B.notSynchronized
  subst hsz
  have hD := hD0.self (sz := s.heap.size)
  have hAB : ∀ q, va_A (CW cd kI kQ L isA bk sc ia qa rf ba) s.heap.size q → Bd ≤ q := fr_AB hD0 hBs
  generalize hAe : va_A (CW cd kI kQ L isA bk sc ia qa rf ba) s.heap.size = A at hD hAB ⊢
  have hA : ∀ q : Nat, s.heap.size ≤ q → A q := fun q h => by rw [← hAe]; exact Or.inr h
  have hS : va_S A s.heap s.heap [] := va_S.rf
  have hs : same [1, 4, 5] sc sc := same.rf
  have hP : va_P (dC, dI) cls_ (CW cd kI kQ L isA bk sc ia qa rf ba) s.heap := hP
  have hl := lv_entry ([.ref (cd 0), .int x]) (n := 4) (Nat.le_of_ble_eq_true rfl)
  rw [lg_entry_eq]
  generalize (lg_sl ([.ref (cd 0), .int x]) ++ List.replicate (4 - (lg_sl ([.ref (cd 0), .int x])).length) Slot.unset).toArray = ls at hl ⊢
  have hl : lv_has ls 4 [(0, .ref (cd 0)), (1, .int x)] := hl
  have hN := hC.1.1
  refine lv_iconst (v := 0) hx hb d_TT_passSecond_0 (by decide) ?_
  refine lv_istore_n hx hb d_TT_passSecond_1 rfl hl (by decide) rfl (fun ls hl => ?_)
  have hl : lv_has ls 4 [(2, .int 0), (0, .ref (cd 0)), (1, .int x)] := hl
  refine lv_iconst (v := 0) hx hb d_TT_passSecond_2 (by decide) ?_
  refine lv_istore_n hx hb d_TT_passSecond_3 rfl hl (by decide) rfl (fun ls hl => ?_)
  have hl : lv_has ls 4 [(3, .int 0), (2, .int 0), (0, .ref (cd 0)), (1, .int x)] := hl
  have J_4 : ∀ (n_4 : Nat) (k : Nat) (q : Int32) (ia_4 : Nat → Nat → Int32) (rf_4 : Nat → Nat → Int32) (H : Heap) (locs : List Loc) (ls : Array Slot), N - k < n_4 → k ≤ N → CI N L isA bk sc qa rf_4 → lv_has ls 4 [(3, .int (nI k)), (2, .int q), (1, .int x), (0, .ref (cd 0))] → va_P (dC, dI) cls_ (CW cd kI kQ L isA bk sc ia_4 qa rf_4 ba) H → va_D A (CW cd kI kQ L isA bk sc ia_4 qa rf_4 ba) → va_S A s.heap H locs → W p l e (headSpec w_TT_passSecond ({ frames := 5, cells := 0, slots := 0, locals := 113 })).room s m (([.ref (cd 0), .int x] : List Value).toArray) below meth c H locs 0 0 (MQ below (tQ (dC, dI) (cW cd kI kQ L isA bk) A vI (fun r u => same [1, 4, 5] sc u.1 ∧ qa = u.2.2.1 ∧ ba = u.2.2.2.2 ∧ CI N L isA bk u.1 u.2.2.1 u.2.2.2.1 ∧ u.1 1 = sc 1 + 1)) (([.ref (cd 0), .int x] : List Value).toArray) s 0 0 A) (F0 m 4 ls []) := by
    intro n_4
    induction n_4 with
    | zero => intro k q ia_4 rf_4 H locs ls hmu hc4_0 hC hl hP hD hS; exact absurd hmu (by omega)
    | succ n_4 ih_4 =>
      intro k q ia_4 rf_4 H locs ls hmu hc4_0 hC hl hP hD hS
      refine lv_iload_n hx hb d_TT_passSecond_4 rfl (lv_at hl 0 rfl) ?_
      refine lv_aload_n hx hb d_TT_passSecond_5 rfl (lv_at hl 3 rfl) ?_
      refine va_get (D := (dC, dI)) (ci := 0) (v := .int (sc 0)) (C := R_TT) (T := F_TT) (N := 8) hx hb ht in_TT hown hK hP 0 rfl rfl 5 (by decide) (ht _ tb_80) (fun _ h9 => h9) rfl d_TT_passSecond_6 ?_
      refine W.eq (g2 := F0 m 9 ls [.int (nI N), .int (nI k)]) (by rw [show sc 0 = nI N from hC.1.2]) ?_
      refine lv_icmp_ge (tgt := 47) hx hb d_TT_passSecond_9 (by decide) (fun h9_1 => ?_) (fun h9_1 => ?_)
      · have h9_1 := h9_1
        have i9_1 := ti_le h9_1
        (try rw [nI_toInt (show k < 2 ^ 31 by omega)] at i9_1)
        (try rw [nI_toInt (show N < 2 ^ 31 by omega)] at i9_1)
        refine lv_aload_n hx hb d_TT_passSecond_47 rfl (lv_at hl 3 rfl) ?_
        refine va_get (D := (dC, dI)) (ci := 0) (v := .int (sc 2)) (C := R_TT) (T := F_TT) (N := 8) hx hb ht in_TT hown hK hP 0 rfl rfl 7 (by decide) (ht _ tb_82) (fun _ h9 => h9) rfl d_TT_passSecond_48 ?_
        refine lv_iconst (v := -1) hx hb d_TT_passSecond_51 (by decide) ?_
        refine lv_icmp_eq (tgt := 75) hx hb d_TT_passSecond_52 (by decide) (fun h52_2 => ?_) (fun h52_2 => ?_)
        · have h52_2 := h52_2
          have i52_2 := ti_eq h52_2
          (try rw [l_m1] at i52_2)
          refine lv_aload_n hx hb d_TT_passSecond_75 rfl (lv_at hl 3 rfl) ?_
          refine lv_dup hx hb d_TT_passSecond_76 rfl ?_
          refine va_get (D := (dC, dI)) (ci := 0) (v := .int (sc 1)) (C := R_TT) (T := F_TT) (N := 8) hx hb ht in_TT hown hK hP 0 rfl rfl 6 (by decide) (ht _ tb_81) (fun _ h9 => h9) rfl d_TT_passSecond_77 ?_
          refine lv_iconst (v := 1) hx hb d_TT_passSecond_80 (by decide) ?_
          refine lv_iadd hx hb d_TT_passSecond_81 ?_
          refine va_put (D := (dC, dI)) (ci := 0) (v := .int ((sc 1) + 1)) (ty := .int) (C := R_TT) (T := F_TT) (N := 8) hx hb ht in_TT t_TT t_TT_ok n_TT hown hK hP hD hS 0 rfl rfl 6 (by decide) (ht _ tb_81) (fun _ h9 => h9) rfl (by decide +kernel) rfl rfl (Nat.le_of_ble_eq_true rfl) d_TT_passSecond_82 (fun H locs hP hD hS => ?_)
          have hP : va_P (dC, dI) cls_ (CW cd kI kQ L isA bk (va_up sc 1 ((sc 1) + 1)) ia_4 qa rf_4 ba) H := hP
          have hD : va_D A (CW cd kI kQ L isA bk (va_up sc 1 ((sc 1) + 1)) ia_4 qa rf_4 ba) := hD
          obtain ⟨sc1, esc1⟩ : ∃ q9_, q9_ = va_up sc 1 ((sc 1) + 1) := ⟨_, rfl⟩
          rw [← esc1] at hP hD
          have hs : same [1, 4, 5] sc sc1 := by rw [esc1]; exact hs.up (by decide)
          have hC : CI N L isA bk sc1 qa rf_4 := by rw [esc1]; exact CI_s1 hC
          refine lv_iconst (v := 0) hx hb d_TT_passSecond_85 (by decide) ?_
          refine lv_istore_n hx hb d_TT_passSecond_86 rfl hl (by decide) rfl (fun ls hl => ?_)
          have hl : lv_has ls 4 [(3, .int 0), (2, .int q), (1, .int x), (0, .ref (cd 0))] := hl
          have J_87 : ∀ (n_87 : Nat) (k : Nat) (rf_87 : Nat → Nat → Int32) (H : Heap) (locs : List Loc) (ls : Array Slot), N - k < n_87 → k ≤ N → CI N L isA bk sc1 qa rf_87 → lv_has ls 4 [(3, .int (nI k)), (2, .int q), (0, .ref (cd 0))] → va_P (dC, dI) cls_ (CW cd kI kQ L isA bk sc1 ia_4 qa rf_87 ba) H → va_D A (CW cd kI kQ L isA bk sc1 ia_4 qa rf_87 ba) → va_S A s.heap H locs → W p l e (headSpec w_TT_passSecond ({ frames := 5, cells := 0, slots := 0, locals := 113 })).room s m (([.ref (cd 0), .int x] : List Value).toArray) below meth c H locs 0 0 (MQ below (tQ (dC, dI) (cW cd kI kQ L isA bk) A vI (fun r u => same [1, 4, 5] sc u.1 ∧ qa = u.2.2.1 ∧ ba = u.2.2.2.2 ∧ CI N L isA bk u.1 u.2.2.1 u.2.2.2.1 ∧ u.1 1 = sc 1 + 1)) (([.ref (cd 0), .int x] : List Value).toArray) s 0 0 A) (F0 m 87 ls []) := by
            intro n_87
            induction n_87 with
            | zero => intro k rf_87 H locs ls hmu hc87_0 hC hl hP hD hS; exact absurd hmu (by omega)
            | succ n_87 ih_87 =>
              intro k rf_87 H locs ls hmu hc87_0 hC hl hP hD hS
              refine lv_iload_n hx hb d_TT_passSecond_87 rfl (lv_at hl 0 rfl) ?_
              refine lv_aload_n hx hb d_TT_passSecond_88 rfl (lv_at hl 2 rfl) ?_
              refine va_get (D := (dC, dI)) (ci := 0) (v := .int (sc1 0)) (C := R_TT) (T := F_TT) (N := 8) hx hb ht in_TT hown hK hP 0 rfl rfl 5 (by decide) (ht _ tb_80) (fun _ h9 => h9) rfl d_TT_passSecond_89 ?_
              refine W.eq (g2 := F0 m 92 ls [.int (nI N), .int (nI k)]) (by rw [show sc1 0 = nI N from hC.1.2]) ?_
              refine lv_icmp_ge (tgt := 140) hx hb d_TT_passSecond_92 (by decide) (fun h92_3 => ?_) (fun h92_3 => ?_)
              · have h92_3 := h92_3
                have i92_3 := ti_le h92_3
                (try rw [nI_toInt (show k < 2 ^ 31 by omega)] at i92_3)
                (try rw [nI_toInt (show N < 2 ^ 31 by omega)] at i92_3)
                refine lv_iload_n hx hb d_TT_passSecond_140 rfl (lv_at hl 1 rfl) ?_
                have hz0 : sc1 1 = sc 1 + 1 := (show sc1 1 = (sc 1) + 1 by rw [esc1]; rfl)
                exact W.iret (v := q) hx hb hr (fun t ht9 hW => ⟨⟨q, (sc1, ia_4, qa, rf_87, ba), rfl, ⟨hs, rfl, rfl, hC, hz0⟩, by rw [ht9]; exact hP, hD⟩, hS.F ht9⟩) hS.2.2 d_TT_passSecond_141
              · have h92_3 := h92_3
                have i92_3 := ti_nle h92_3
                (try rw [nI_toInt (show k < 2 ^ 31 by omega)] at i92_3)
                (try rw [nI_toInt (show N < 2 ^ 31 by omega)] at i92_3)
                refine lv_aload_n hx hb d_TT_passSecond_95 rfl (lv_at hl 2 rfl) ?_
                refine va_get (D := (dC, dI)) (ci := 0) (v := .ref (cd 1)) (C := R_TT) (T := F_TT) (N := 8) hx hb ht in_TT hown hK hP 0 rfl rfl 0 (by decide) (ht _ tb_75) (fun _ h9 => h9) rfl d_TT_passSecond_96 ?_
                refine lv_iload_n hx hb d_TT_passSecond_99 rfl (lv_at hl 0 rfl) ?_
                refine va_aldq (C := "TwinTuners$Request") hx hb hK hP 1 1 rfl rfl (vp_in_nI (show k < 40 by omega) (by decide)) d_TT_passSecond_100 ?_
                obtain ⟨a2, ea2, haa2, hna2⟩ := hC.2.2.2.2.2.1 k (by omega)
                refine W.eq (g2 := F0 m 101 ls [.ref a2]) (by rw [nI_clamp (show k < 2 ^ 31 by omega), ea2]; rfl) ?_
                obtain ⟨kq, hkq⟩ := pq_at (X := CX cd kI kQ sc1 ia_4 qa) (kI := kI) (bk := bk) (rf := rf_87) (ba := ba) haa2 hna2
                refine va_get (D := (dC, dI)) (ci := 4) (v := .int (rf_87 a2 8)) (C := R_RQ) (T := F_RQ) (N := 17) hx hb ht in_RQ hown hK hP kq hkq rfl 8 (by decide) (ht _ tb_392) (fun _ h9 => h9) rfl d_TT_passSecond_101 ?_
                refine lv_iconst (v := 1) hx hb d_TT_passSecond_104 (by decide) ?_
                refine lv_icmp_ne (tgt := 134) hx hb d_TT_passSecond_105 (by decide) (fun h105_4 => ?_) (fun h105_4 => ?_)
                · have h105_4 := h105_4
                  have i105_4 := ti_ne h105_4
                  (try rw [l_1] at i105_4)
                  refine lv_iinc (k := 0) (v := nI (k + 1)) hx hb d_TT_passSecond_134 hl rfl ((nI_succ k).symm) (by decide) rfl (fun ls hl => ?_)
                  have hl : lv_has ls 4 [(3, .int (nI (k + 1))), (2, .int q), (0, .ref (cd 0))] := hl
                  refine lv_goto (tgt := 87) hx hb d_TT_passSecond_137 (by decide) ?_
                  exact ih_87 (k + 1) rf_87 H _ ls (by omega) (by omega) hC hl hP hD hS
                · have h105_4 := h105_4
                  have i105_4 := ti_eq h105_4
                  (try rw [l_1] at i105_4)
                  refine lv_aload_n hx hb d_TT_passSecond_108 rfl (lv_at hl 2 rfl) ?_
                  refine va_get (D := (dC, dI)) (ci := 0) (v := .ref (cd 1)) (C := R_TT) (T := F_TT) (N := 8) hx hb ht in_TT hown hK hP 0 rfl rfl 0 (by decide) (ht _ tb_75) (fun _ h9 => h9) rfl d_TT_passSecond_109 ?_
                  refine lv_iload_n hx hb d_TT_passSecond_112 rfl (lv_at hl 0 rfl) ?_
                  refine va_aldq (C := "TwinTuners$Request") hx hb hK hP 1 1 rfl rfl (vp_in_nI (show k < 40 by omega) (by decide)) d_TT_passSecond_113 ?_
                  obtain ⟨a3, ea3, haa3, hna3⟩ := hC.2.2.2.2.2.1 k (by omega)
                  refine W.eq (g2 := F0 m 114 ls [.ref a3]) (by rw [nI_clamp (show k < 2 ^ 31 by omega), ea3]; rfl) ?_
                  obtain ⟨kq, hkq⟩ := pq_at (X := CX cd kI kQ sc1 ia_4 qa) (kI := kI) (bk := bk) (rf := rf_87) (ba := ba) haa3 hna3
                  refine va_get (D := (dC, dI)) (ci := 4) (v := .int (rf_87 a3 10)) (C := R_RQ) (T := F_RQ) (N := 17) hx hb ht in_RQ hown hK hP kq hkq rfl 10 (by decide) (ht _ tb_398) (fun _ h9 => h9) rfl d_TT_passSecond_114 ?_
                  refine lv_aload_n hx hb d_TT_passSecond_117 rfl (lv_at hl 2 rfl) ?_
                  refine va_get (D := (dC, dI)) (ci := 0) (v := .int (sc1 1)) (C := R_TT) (T := F_TT) (N := 8) hx hb ht in_TT hown hK hP 0 rfl rfl 6 (by decide) (ht _ tb_81) (fun _ h9 => h9) rfl d_TT_passSecond_118 ?_
                  refine lv_icmp_ne (tgt := 134) hx hb d_TT_passSecond_121 (by decide) (fun h121_5 => ?_) (fun h121_5 => ?_)
                  · have h121_5 := h121_5
                    have i121_5 := ti_ne h121_5
                    refine lv_iinc (k := 0) (v := nI (k + 1)) hx hb d_TT_passSecond_134 hl rfl ((nI_succ k).symm) (by decide) rfl (fun ls hl => ?_)
                    have hl : lv_has ls 4 [(3, .int (nI (k + 1))), (2, .int q), (0, .ref (cd 0))] := hl
                    refine lv_goto (tgt := 87) hx hb d_TT_passSecond_137 (by decide) ?_
                    exact ih_87 (k + 1) rf_87 H _ ls (by omega) (by omega) hC hl hP hD hS
                  · have h121_5 := h121_5
                    have i121_5 := ti_eq h121_5
                    refine lv_aload_n hx hb d_TT_passSecond_124 rfl (lv_at hl 2 rfl) ?_
                    refine va_get (D := (dC, dI)) (ci := 0) (v := .ref (cd 1)) (C := R_TT) (T := F_TT) (N := 8) hx hb ht in_TT hown hK hP 0 rfl rfl 0 (by decide) (ht _ tb_75) (fun _ h9 => h9) rfl d_TT_passSecond_125 ?_
                    refine lv_iload_n hx hb d_TT_passSecond_128 rfl (lv_at hl 0 rfl) ?_
                    refine va_aldq (C := "TwinTuners$Request") hx hb hK hP 1 1 rfl rfl (vp_in_nI (show k < 40 by omega) (by decide)) d_TT_passSecond_129 ?_
                    obtain ⟨a4, ea4, haa4, hna4⟩ := hC.2.2.2.2.2.1 k (by omega)
                    refine W.eq (g2 := F0 m 130 ls [.ref a4]) (by rw [nI_clamp (show k < 2 ^ 31 by omega), ea4]; rfl) ?_
                    refine lv_iconst (v := 2) hx hb d_TT_passSecond_130 (by decide) ?_
                    obtain ⟨kq, hkq⟩ := pq_at (X := CX cd kI kQ sc1 ia_4 qa) (kI := kI) (bk := bk) (rf := rf_87) (ba := ba) haa4 hna4
                    have hD0 := hD
                    refine va_put (D := (dC, dI)) (ci := 4) (v := .int 2) (ty := .int) (C := R_RQ) (T := F_RQ) (N := 17) hx hb ht in_RQ t_RQ t_RQ_ok n_RQ hown hK hP hD hS kq hkq rfl 8 (by decide) (ht _ tb_392) (fun _ h9 => h9) rfl (by decide +kernel) rfl rfl (Nat.le_of_ble_eq_true rfl) d_TT_passSecond_131 (fun H locs hP hD hS => ?_)
                    rw [pq_set hD0 haa4 hna4 hkq rfl] at hP hD
                    have hP : va_P (dC, dI) cls_ (CW cd kI kQ L isA bk sc1 ia_4 qa (va_up rf_87 a4 (va_up (rf_87 a4) 8 2)) ba) H := hP
                    have hD : va_D A (CW cd kI kQ L isA bk sc1 ia_4 qa (va_up rf_87 a4 (va_up (rf_87 a4) 8 2)) ba) := hD
                    obtain ⟨rf5, erf5⟩ : ∃ q9_, q9_ = va_up rf_87 a4 (va_up (rf_87 a4) 8 2) := ⟨_, rfl⟩
                    rw [← erf5] at hP hD
                    have hC : CI N L isA bk sc1 qa rf5 := by rw [erf5]; exact CI_r hC (by decide) (Or.inl (by decide))
                    refine lv_iinc (k := 0) (v := nI (k + 1)) hx hb d_TT_passSecond_134 hl rfl ((nI_succ k).symm) (by decide) rfl (fun ls hl => ?_)
                    have hl : lv_has ls 4 [(3, .int (nI (k + 1))), (2, .int q), (0, .ref (cd 0))] := hl
                    refine lv_goto (tgt := 87) hx hb d_TT_passSecond_137 (by decide) ?_
                    exact ih_87 (k + 1) rf5 H _ ls (by omega) (by omega) hC hl hP hD hS
          have hl := lv_sub hl [0, 1, 3] (l' := [(3, .int 0), (2, .int q), (0, .ref (cd 0))]) rfl
          have hl : lv_has ls 4 [(3, .int (nI 0)), (2, .int q), (0, .ref (cd 0))] := hl
          exact J_87 ((N - 0) + 1) 0 rf_4 H _ ls (by omega) (by omega) hC hl hP hD hS
        · have h52_2 := h52_2
          have i52_2 := ti_ne h52_2
          (try rw [l_m1] at i52_2)
          refine lv_aload_n hx hb d_TT_passSecond_55 rfl (lv_at hl 3 rfl) ?_
          refine lv_iload_n hx hb d_TT_passSecond_56 rfl (lv_at hl 2 rfl) ?_
          refine lv_aload_n hx hb d_TT_passSecond_57 rfl (lv_at hl 3 rfl) ?_
          refine va_get (D := (dC, dI)) (ci := 0) (v := .int (sc 2)) (C := R_TT) (T := F_TT) (N := 8) hx hb ht in_TT hown hK hP 0 rfl rfl 7 (by decide) (ht _ tb_82) (fun _ h9 => h9) rfl d_TT_passSecond_58 ?_
          refine lv_ishr hx hb d_TT_passSecond_61 ?_
          refine lv_topi (fun z6 _ => ?_)
          refine lv_iconst (v := 1) hx hb d_TT_passSecond_62 (by decide) ?_
          refine lv_iand hx hb d_TT_passSecond_63 ?_
          refine lv_if_eq (tgt := 71) hx hb d_TT_passSecond_64 (by decide) (fun h64_6 => ?_) (fun h64_6 => ?_)
          · have h64_6 := h64_6
            have i64_6 := ti_eq h64_6
            (try rw [l_0] at i64_6)
            refine lv_iconst (v := 0) hx hb d_TT_passSecond_71 (by decide) ?_
            refine t_call (u0 := (sc, ia_4, qa, rf_4, ba)) (va_runV (C := R_TT) (As := [.int 0]) (rest := []) ⟨hx, hb, hml, hown, ht⟩ (k_TT_keepWatched l dC dI cd kI kQ L isA bk sc ia_4 qa rf_4 ba H.size Bd N hC 0 (by have h9 := hC.2.1; omega)) (cwV 1 ht (gV tb_228 tb_230 ts_16 tb_1 tb_231) rfl rfl rfl (by decide +kernel) ⟨Nat.le_of_ble_eq_true rfl, Nat.le_of_ble_eq_true rfl⟩) ⟨frP_blind, va_recv (q := (R_TT, F_TT, 8)) hK hP rfl (show (CW cd kI kQ L isA bk sc ia_4 qa rf_4 ba : va_W)[0]? = some _ from rfl), fr_pre hP hK hD hAB hBs hS hV⟩ rfl rfl hl.1 rfl (lv_room (Nat.le_of_ble_eq_true rfl)) d_TT_passSecond_72 ⟨Nat.le_of_ble_eq_true rfl, Nat.le_of_ble_eq_true rfl⟩) hD hS hA (fun r7 u H locs hu hP hD hS => ?_)
            obtain ⟨sc8, ia9, qa10, rf11, ba12⟩ := u
            obtain ⟨hu7_0, hu7_1, hu7_2, hu7_3, hu7_4⟩ := hu
            have hu7_0 : same [4, 5] sc sc8 := hu7_0
            have hu7_1 : qa = qa10 := hu7_1
            have hu7_2 : rf_4 = rf11 := hu7_2
            have hu7_3 : ba = ba12 := hu7_3
            have hu7_4 : CI N L isA bk sc8 qa10 rf11 := hu7_4
            subst hu7_1
            subst hu7_2
            subst hu7_3
            have hu7_0 : same [4, 5] sc sc8 := hu7_0
            have hP : va_P (dC, dI) cls_ (CW cd kI kQ L isA bk sc8 ia9 qa rf_4 ba) H := hP
            have hD : va_D A (CW cd kI kQ L isA bk sc8 ia9 qa rf_4 ba) := hD
            have hC : CI N L isA bk sc8 qa rf_4 := hu7_4
            have hs : same [1, 4, 5] sc sc8 := hs.tr (hu7_0.wk (by decide))
            refine W.eq (g2 := F0 m 75 ls []) rfl ?_
            refine W.cs (cells' := 0) (slots' := 0) rfl rfl ?_
            refine lv_aload_n hx hb d_TT_passSecond_75 rfl (lv_at hl 3 rfl) ?_
            refine lv_dup hx hb d_TT_passSecond_76 rfl ?_
            refine va_get (D := (dC, dI)) (ci := 0) (v := .int (sc8 1)) (C := R_TT) (T := F_TT) (N := 8) hx hb ht in_TT hown hK hP 0 rfl rfl 6 (by decide) (ht _ tb_81) (fun _ h9 => h9) rfl d_TT_passSecond_77 ?_
            refine W.eq (g2 := F0 m 80 ls [.int (sc 1), .ref (cd 0)]) (by rw [show sc8 1 = sc 1 from (hu7_0 1 (by decide))]) ?_
            refine lv_iconst (v := 1) hx hb d_TT_passSecond_80 (by decide) ?_
            refine lv_iadd hx hb d_TT_passSecond_81 ?_
            refine va_put (D := (dC, dI)) (ci := 0) (v := .int ((sc 1) + 1)) (ty := .int) (C := R_TT) (T := F_TT) (N := 8) hx hb ht in_TT t_TT t_TT_ok n_TT hown hK hP hD hS 0 rfl rfl 6 (by decide) (ht _ tb_81) (fun _ h9 => h9) rfl (by decide +kernel) rfl rfl (Nat.le_of_ble_eq_true rfl) d_TT_passSecond_82 (fun H locs hP hD hS => ?_)
            have hP : va_P (dC, dI) cls_ (CW cd kI kQ L isA bk (va_up sc8 1 ((sc 1) + 1)) ia9 qa rf_4 ba) H := hP
            have hD : va_D A (CW cd kI kQ L isA bk (va_up sc8 1 ((sc 1) + 1)) ia9 qa rf_4 ba) := hD
            obtain ⟨sc13, esc13⟩ : ∃ q9_, q9_ = va_up sc8 1 ((sc 1) + 1) := ⟨_, rfl⟩
            rw [← esc13] at hP hD
            have hs : same [1, 4, 5] sc sc13 := by rw [esc13]; exact hs.up (by decide)
            have hC : CI N L isA bk sc13 qa rf_4 := by rw [esc13]; exact CI_s1 hC
            refine lv_iconst (v := 0) hx hb d_TT_passSecond_85 (by decide) ?_
            refine lv_istore_n hx hb d_TT_passSecond_86 rfl hl (by decide) rfl (fun ls hl => ?_)
            have hl : lv_has ls 4 [(3, .int 0), (2, .int q), (1, .int x), (0, .ref (cd 0))] := hl
            have J_87 : ∀ (n_87 : Nat) (k : Nat) (rf_87 : Nat → Nat → Int32) (H : Heap) (locs : List Loc) (ls : Array Slot), N - k < n_87 → k ≤ N → CI N L isA bk sc13 qa rf_87 → lv_has ls 4 [(3, .int (nI k)), (2, .int q), (0, .ref (cd 0))] → va_P (dC, dI) cls_ (CW cd kI kQ L isA bk sc13 ia9 qa rf_87 ba) H → va_D A (CW cd kI kQ L isA bk sc13 ia9 qa rf_87 ba) → va_S A s.heap H locs → W p l e (headSpec w_TT_passSecond ({ frames := 5, cells := 0, slots := 0, locals := 113 })).room s m (([.ref (cd 0), .int x] : List Value).toArray) below meth c H locs 0 0 (MQ below (tQ (dC, dI) (cW cd kI kQ L isA bk) A vI (fun r u => same [1, 4, 5] sc u.1 ∧ qa = u.2.2.1 ∧ ba = u.2.2.2.2 ∧ CI N L isA bk u.1 u.2.2.1 u.2.2.2.1 ∧ u.1 1 = sc 1 + 1)) (([.ref (cd 0), .int x] : List Value).toArray) s 0 0 A) (F0 m 87 ls []) := by
              intro n_87
              induction n_87 with
              | zero => intro k rf_87 H locs ls hmu hc87_0 hC hl hP hD hS; exact absurd hmu (by omega)
              | succ n_87 ih_87 =>
                intro k rf_87 H locs ls hmu hc87_0 hC hl hP hD hS
                refine lv_iload_n hx hb d_TT_passSecond_87 rfl (lv_at hl 0 rfl) ?_
                refine lv_aload_n hx hb d_TT_passSecond_88 rfl (lv_at hl 2 rfl) ?_
                refine va_get (D := (dC, dI)) (ci := 0) (v := .int (sc13 0)) (C := R_TT) (T := F_TT) (N := 8) hx hb ht in_TT hown hK hP 0 rfl rfl 5 (by decide) (ht _ tb_80) (fun _ h9 => h9) rfl d_TT_passSecond_89 ?_
                refine W.eq (g2 := F0 m 92 ls [.int (nI N), .int (nI k)]) (by rw [show sc13 0 = nI N from hC.1.2]) ?_
                refine lv_icmp_ge (tgt := 140) hx hb d_TT_passSecond_92 (by decide) (fun h92_7 => ?_) (fun h92_7 => ?_)
                · have h92_7 := h92_7
                  have i92_7 := ti_le h92_7
                  (try rw [nI_toInt (show k < 2 ^ 31 by omega)] at i92_7)
                  (try rw [nI_toInt (show N < 2 ^ 31 by omega)] at i92_7)
                  refine lv_iload_n hx hb d_TT_passSecond_140 rfl (lv_at hl 1 rfl) ?_
                  have hz0 : sc13 1 = sc 1 + 1 := (show sc13 1 = (sc 1) + 1 by rw [esc13]; rfl)
                  exact W.iret (v := q) hx hb hr (fun t ht9 hW => ⟨⟨q, (sc13, ia9, qa, rf_87, ba), rfl, ⟨hs, rfl, rfl, hC, hz0⟩, by rw [ht9]; exact hP, hD⟩, hS.F ht9⟩) hS.2.2 d_TT_passSecond_141
                · have h92_7 := h92_7
                  have i92_7 := ti_nle h92_7
                  (try rw [nI_toInt (show k < 2 ^ 31 by omega)] at i92_7)
                  (try rw [nI_toInt (show N < 2 ^ 31 by omega)] at i92_7)
                  refine lv_aload_n hx hb d_TT_passSecond_95 rfl (lv_at hl 2 rfl) ?_
                  refine va_get (D := (dC, dI)) (ci := 0) (v := .ref (cd 1)) (C := R_TT) (T := F_TT) (N := 8) hx hb ht in_TT hown hK hP 0 rfl rfl 0 (by decide) (ht _ tb_75) (fun _ h9 => h9) rfl d_TT_passSecond_96 ?_
                  refine lv_iload_n hx hb d_TT_passSecond_99 rfl (lv_at hl 0 rfl) ?_
                  refine va_aldq (C := "TwinTuners$Request") hx hb hK hP 1 1 rfl rfl (vp_in_nI (show k < 40 by omega) (by decide)) d_TT_passSecond_100 ?_
                  obtain ⟨a14, ea14, haa14, hna14⟩ := hC.2.2.2.2.2.1 k (by omega)
                  refine W.eq (g2 := F0 m 101 ls [.ref a14]) (by rw [nI_clamp (show k < 2 ^ 31 by omega), ea14]; rfl) ?_
                  obtain ⟨kq, hkq⟩ := pq_at (X := CX cd kI kQ sc13 ia9 qa) (kI := kI) (bk := bk) (rf := rf_87) (ba := ba) haa14 hna14
                  refine va_get (D := (dC, dI)) (ci := 4) (v := .int (rf_87 a14 8)) (C := R_RQ) (T := F_RQ) (N := 17) hx hb ht in_RQ hown hK hP kq hkq rfl 8 (by decide) (ht _ tb_392) (fun _ h9 => h9) rfl d_TT_passSecond_101 ?_
                  refine lv_iconst (v := 1) hx hb d_TT_passSecond_104 (by decide) ?_
                  refine lv_icmp_ne (tgt := 134) hx hb d_TT_passSecond_105 (by decide) (fun h105_8 => ?_) (fun h105_8 => ?_)
                  · have h105_8 := h105_8
                    have i105_8 := ti_ne h105_8
                    (try rw [l_1] at i105_8)
                    refine lv_iinc (k := 0) (v := nI (k + 1)) hx hb d_TT_passSecond_134 hl rfl ((nI_succ k).symm) (by decide) rfl (fun ls hl => ?_)
                    have hl : lv_has ls 4 [(3, .int (nI (k + 1))), (2, .int q), (0, .ref (cd 0))] := hl
                    refine lv_goto (tgt := 87) hx hb d_TT_passSecond_137 (by decide) ?_
                    exact ih_87 (k + 1) rf_87 H _ ls (by omega) (by omega) hC hl hP hD hS
                  · have h105_8 := h105_8
                    have i105_8 := ti_eq h105_8
                    (try rw [l_1] at i105_8)
                    refine lv_aload_n hx hb d_TT_passSecond_108 rfl (lv_at hl 2 rfl) ?_
                    refine va_get (D := (dC, dI)) (ci := 0) (v := .ref (cd 1)) (C := R_TT) (T := F_TT) (N := 8) hx hb ht in_TT hown hK hP 0 rfl rfl 0 (by decide) (ht _ tb_75) (fun _ h9 => h9) rfl d_TT_passSecond_109 ?_
                    refine lv_iload_n hx hb d_TT_passSecond_112 rfl (lv_at hl 0 rfl) ?_
                    refine va_aldq (C := "TwinTuners$Request") hx hb hK hP 1 1 rfl rfl (vp_in_nI (show k < 40 by omega) (by decide)) d_TT_passSecond_113 ?_
                    obtain ⟨a15, ea15, haa15, hna15⟩ := hC.2.2.2.2.2.1 k (by omega)
                    refine W.eq (g2 := F0 m 114 ls [.ref a15]) (by rw [nI_clamp (show k < 2 ^ 31 by omega), ea15]; rfl) ?_
                    obtain ⟨kq, hkq⟩ := pq_at (X := CX cd kI kQ sc13 ia9 qa) (kI := kI) (bk := bk) (rf := rf_87) (ba := ba) haa15 hna15
                    refine va_get (D := (dC, dI)) (ci := 4) (v := .int (rf_87 a15 10)) (C := R_RQ) (T := F_RQ) (N := 17) hx hb ht in_RQ hown hK hP kq hkq rfl 10 (by decide) (ht _ tb_398) (fun _ h9 => h9) rfl d_TT_passSecond_114 ?_
                    refine lv_aload_n hx hb d_TT_passSecond_117 rfl (lv_at hl 2 rfl) ?_
                    refine va_get (D := (dC, dI)) (ci := 0) (v := .int (sc13 1)) (C := R_TT) (T := F_TT) (N := 8) hx hb ht in_TT hown hK hP 0 rfl rfl 6 (by decide) (ht _ tb_81) (fun _ h9 => h9) rfl d_TT_passSecond_118 ?_
                    refine lv_icmp_ne (tgt := 134) hx hb d_TT_passSecond_121 (by decide) (fun h121_9 => ?_) (fun h121_9 => ?_)
                    · have h121_9 := h121_9
                      have i121_9 := ti_ne h121_9
                      refine lv_iinc (k := 0) (v := nI (k + 1)) hx hb d_TT_passSecond_134 hl rfl ((nI_succ k).symm) (by decide) rfl (fun ls hl => ?_)
                      have hl : lv_has ls 4 [(3, .int (nI (k + 1))), (2, .int q), (0, .ref (cd 0))] := hl
                      refine lv_goto (tgt := 87) hx hb d_TT_passSecond_137 (by decide) ?_
                      exact ih_87 (k + 1) rf_87 H _ ls (by omega) (by omega) hC hl hP hD hS
                    · have h121_9 := h121_9
                      have i121_9 := ti_eq h121_9
                      refine lv_aload_n hx hb d_TT_passSecond_124 rfl (lv_at hl 2 rfl) ?_
                      refine va_get (D := (dC, dI)) (ci := 0) (v := .ref (cd 1)) (C := R_TT) (T := F_TT) (N := 8) hx hb ht in_TT hown hK hP 0 rfl rfl 0 (by decide) (ht _ tb_75) (fun _ h9 => h9) rfl d_TT_passSecond_125 ?_
                      refine lv_iload_n hx hb d_TT_passSecond_128 rfl (lv_at hl 0 rfl) ?_
                      refine va_aldq (C := "TwinTuners$Request") hx hb hK hP 1 1 rfl rfl (vp_in_nI (show k < 40 by omega) (by decide)) d_TT_passSecond_129 ?_
                      obtain ⟨a16, ea16, haa16, hna16⟩ := hC.2.2.2.2.2.1 k (by omega)
                      refine W.eq (g2 := F0 m 130 ls [.ref a16]) (by rw [nI_clamp (show k < 2 ^ 31 by omega), ea16]; rfl) ?_
                      refine lv_iconst (v := 2) hx hb d_TT_passSecond_130 (by decide) ?_
                      obtain ⟨kq, hkq⟩ := pq_at (X := CX cd kI kQ sc13 ia9 qa) (kI := kI) (bk := bk) (rf := rf_87) (ba := ba) haa16 hna16
                      have hD0 := hD
                      refine va_put (D := (dC, dI)) (ci := 4) (v := .int 2) (ty := .int) (C := R_RQ) (T := F_RQ) (N := 17) hx hb ht in_RQ t_RQ t_RQ_ok n_RQ hown hK hP hD hS kq hkq rfl 8 (by decide) (ht _ tb_392) (fun _ h9 => h9) rfl (by decide +kernel) rfl rfl (Nat.le_of_ble_eq_true rfl) d_TT_passSecond_131 (fun H locs hP hD hS => ?_)
                      rw [pq_set hD0 haa16 hna16 hkq rfl] at hP hD
                      have hP : va_P (dC, dI) cls_ (CW cd kI kQ L isA bk sc13 ia9 qa (va_up rf_87 a16 (va_up (rf_87 a16) 8 2)) ba) H := hP
                      have hD : va_D A (CW cd kI kQ L isA bk sc13 ia9 qa (va_up rf_87 a16 (va_up (rf_87 a16) 8 2)) ba) := hD
                      obtain ⟨rf17, erf17⟩ : ∃ q9_, q9_ = va_up rf_87 a16 (va_up (rf_87 a16) 8 2) := ⟨_, rfl⟩
                      rw [← erf17] at hP hD
                      have hC : CI N L isA bk sc13 qa rf17 := by rw [erf17]; exact CI_r hC (by decide) (Or.inl (by decide))
                      refine lv_iinc (k := 0) (v := nI (k + 1)) hx hb d_TT_passSecond_134 hl rfl ((nI_succ k).symm) (by decide) rfl (fun ls hl => ?_)
                      have hl : lv_has ls 4 [(3, .int (nI (k + 1))), (2, .int q), (0, .ref (cd 0))] := hl
                      refine lv_goto (tgt := 87) hx hb d_TT_passSecond_137 (by decide) ?_
                      exact ih_87 (k + 1) rf17 H _ ls (by omega) (by omega) hC hl hP hD hS
            have hl := lv_sub hl [0, 1, 3] (l' := [(3, .int 0), (2, .int q), (0, .ref (cd 0))]) rfl
            have hl : lv_has ls 4 [(3, .int (nI 0)), (2, .int q), (0, .ref (cd 0))] := hl
            exact J_87 ((N - 0) + 1) 0 rf_4 H _ ls (by omega) (by omega) hC hl hP hD hS
          · have h64_6 := h64_6
            have i64_6 := ti_ne h64_6
            (try rw [l_0] at i64_6)
            refine lv_iconst (v := 1) hx hb d_TT_passSecond_67 (by decide) ?_
            refine lv_goto (tgt := 72) hx hb d_TT_passSecond_68 (by decide) ?_
            refine t_call (u0 := (sc, ia_4, qa, rf_4, ba)) (va_runV (C := R_TT) (As := [.int 1]) (rest := []) ⟨hx, hb, hml, hown, ht⟩ (k_TT_keepWatched l dC dI cd kI kQ L isA bk sc ia_4 qa rf_4 ba H.size Bd N hC 1 (by have h9 := hC.2.1; omega)) (cwV 1 ht (gV tb_228 tb_230 ts_16 tb_1 tb_231) rfl rfl rfl (by decide +kernel) ⟨Nat.le_of_ble_eq_true rfl, Nat.le_of_ble_eq_true rfl⟩) ⟨frP_blind, va_recv (q := (R_TT, F_TT, 8)) hK hP rfl (show (CW cd kI kQ L isA bk sc ia_4 qa rf_4 ba : va_W)[0]? = some _ from rfl), fr_pre hP hK hD hAB hBs hS hV⟩ rfl rfl hl.1 rfl (lv_room (Nat.le_of_ble_eq_true rfl)) d_TT_passSecond_72 ⟨Nat.le_of_ble_eq_true rfl, Nat.le_of_ble_eq_true rfl⟩) hD hS hA (fun r18 u H locs hu hP hD hS => ?_)
            obtain ⟨sc19, ia20, qa21, rf22, ba23⟩ := u
            obtain ⟨hu18_0, hu18_1, hu18_2, hu18_3, hu18_4⟩ := hu
            have hu18_0 : same [4, 5] sc sc19 := hu18_0
            have hu18_1 : qa = qa21 := hu18_1
            have hu18_2 : rf_4 = rf22 := hu18_2
            have hu18_3 : ba = ba23 := hu18_3
            have hu18_4 : CI N L isA bk sc19 qa21 rf22 := hu18_4
            subst hu18_1
            subst hu18_2
            subst hu18_3
            have hu18_0 : same [4, 5] sc sc19 := hu18_0
            have hP : va_P (dC, dI) cls_ (CW cd kI kQ L isA bk sc19 ia20 qa rf_4 ba) H := hP
            have hD : va_D A (CW cd kI kQ L isA bk sc19 ia20 qa rf_4 ba) := hD
            have hC : CI N L isA bk sc19 qa rf_4 := hu18_4
            have hs : same [1, 4, 5] sc sc19 := hs.tr (hu18_0.wk (by decide))
            refine W.eq (g2 := F0 m 75 ls []) rfl ?_
            refine W.cs (cells' := 0) (slots' := 0) rfl rfl ?_
            refine lv_aload_n hx hb d_TT_passSecond_75 rfl (lv_at hl 3 rfl) ?_
            refine lv_dup hx hb d_TT_passSecond_76 rfl ?_
            refine va_get (D := (dC, dI)) (ci := 0) (v := .int (sc19 1)) (C := R_TT) (T := F_TT) (N := 8) hx hb ht in_TT hown hK hP 0 rfl rfl 6 (by decide) (ht _ tb_81) (fun _ h9 => h9) rfl d_TT_passSecond_77 ?_
            refine W.eq (g2 := F0 m 80 ls [.int (sc 1), .ref (cd 0)]) (by rw [show sc19 1 = sc 1 from (hu18_0 1 (by decide))]) ?_
            refine lv_iconst (v := 1) hx hb d_TT_passSecond_80 (by decide) ?_
            refine lv_iadd hx hb d_TT_passSecond_81 ?_
            refine va_put (D := (dC, dI)) (ci := 0) (v := .int ((sc 1) + 1)) (ty := .int) (C := R_TT) (T := F_TT) (N := 8) hx hb ht in_TT t_TT t_TT_ok n_TT hown hK hP hD hS 0 rfl rfl 6 (by decide) (ht _ tb_81) (fun _ h9 => h9) rfl (by decide +kernel) rfl rfl (Nat.le_of_ble_eq_true rfl) d_TT_passSecond_82 (fun H locs hP hD hS => ?_)
            have hP : va_P (dC, dI) cls_ (CW cd kI kQ L isA bk (va_up sc19 1 ((sc 1) + 1)) ia20 qa rf_4 ba) H := hP
            have hD : va_D A (CW cd kI kQ L isA bk (va_up sc19 1 ((sc 1) + 1)) ia20 qa rf_4 ba) := hD
            obtain ⟨sc24, esc24⟩ : ∃ q9_, q9_ = va_up sc19 1 ((sc 1) + 1) := ⟨_, rfl⟩
            rw [← esc24] at hP hD
            have hs : same [1, 4, 5] sc sc24 := by rw [esc24]; exact hs.up (by decide)
            have hC : CI N L isA bk sc24 qa rf_4 := by rw [esc24]; exact CI_s1 hC
            refine lv_iconst (v := 0) hx hb d_TT_passSecond_85 (by decide) ?_
            refine lv_istore_n hx hb d_TT_passSecond_86 rfl hl (by decide) rfl (fun ls hl => ?_)
            have hl : lv_has ls 4 [(3, .int 0), (2, .int q), (1, .int x), (0, .ref (cd 0))] := hl
            have J_87 : ∀ (n_87 : Nat) (k : Nat) (rf_87 : Nat → Nat → Int32) (H : Heap) (locs : List Loc) (ls : Array Slot), N - k < n_87 → k ≤ N → CI N L isA bk sc24 qa rf_87 → lv_has ls 4 [(3, .int (nI k)), (2, .int q), (0, .ref (cd 0))] → va_P (dC, dI) cls_ (CW cd kI kQ L isA bk sc24 ia20 qa rf_87 ba) H → va_D A (CW cd kI kQ L isA bk sc24 ia20 qa rf_87 ba) → va_S A s.heap H locs → W p l e (headSpec w_TT_passSecond ({ frames := 5, cells := 0, slots := 0, locals := 113 })).room s m (([.ref (cd 0), .int x] : List Value).toArray) below meth c H locs 0 0 (MQ below (tQ (dC, dI) (cW cd kI kQ L isA bk) A vI (fun r u => same [1, 4, 5] sc u.1 ∧ qa = u.2.2.1 ∧ ba = u.2.2.2.2 ∧ CI N L isA bk u.1 u.2.2.1 u.2.2.2.1 ∧ u.1 1 = sc 1 + 1)) (([.ref (cd 0), .int x] : List Value).toArray) s 0 0 A) (F0 m 87 ls []) := by
              intro n_87
              induction n_87 with
              | zero => intro k rf_87 H locs ls hmu hc87_0 hC hl hP hD hS; exact absurd hmu (by omega)
              | succ n_87 ih_87 =>
                intro k rf_87 H locs ls hmu hc87_0 hC hl hP hD hS
                refine lv_iload_n hx hb d_TT_passSecond_87 rfl (lv_at hl 0 rfl) ?_
                refine lv_aload_n hx hb d_TT_passSecond_88 rfl (lv_at hl 2 rfl) ?_
                refine va_get (D := (dC, dI)) (ci := 0) (v := .int (sc24 0)) (C := R_TT) (T := F_TT) (N := 8) hx hb ht in_TT hown hK hP 0 rfl rfl 5 (by decide) (ht _ tb_80) (fun _ h9 => h9) rfl d_TT_passSecond_89 ?_
                refine W.eq (g2 := F0 m 92 ls [.int (nI N), .int (nI k)]) (by rw [show sc24 0 = nI N from hC.1.2]) ?_
                refine lv_icmp_ge (tgt := 140) hx hb d_TT_passSecond_92 (by decide) (fun h92_10 => ?_) (fun h92_10 => ?_)
                · have h92_10 := h92_10
                  have i92_10 := ti_le h92_10
                  (try rw [nI_toInt (show k < 2 ^ 31 by omega)] at i92_10)
                  (try rw [nI_toInt (show N < 2 ^ 31 by omega)] at i92_10)
                  refine lv_iload_n hx hb d_TT_passSecond_140 rfl (lv_at hl 1 rfl) ?_
                  have hz0 : sc24 1 = sc 1 + 1 := (show sc24 1 = (sc 1) + 1 by rw [esc24]; rfl)
                  exact W.iret (v := q) hx hb hr (fun t ht9 hW => ⟨⟨q, (sc24, ia20, qa, rf_87, ba), rfl, ⟨hs, rfl, rfl, hC, hz0⟩, by rw [ht9]; exact hP, hD⟩, hS.F ht9⟩) hS.2.2 d_TT_passSecond_141
                · have h92_10 := h92_10
                  have i92_10 := ti_nle h92_10
                  (try rw [nI_toInt (show k < 2 ^ 31 by omega)] at i92_10)
                  (try rw [nI_toInt (show N < 2 ^ 31 by omega)] at i92_10)
                  refine lv_aload_n hx hb d_TT_passSecond_95 rfl (lv_at hl 2 rfl) ?_
                  refine va_get (D := (dC, dI)) (ci := 0) (v := .ref (cd 1)) (C := R_TT) (T := F_TT) (N := 8) hx hb ht in_TT hown hK hP 0 rfl rfl 0 (by decide) (ht _ tb_75) (fun _ h9 => h9) rfl d_TT_passSecond_96 ?_
                  refine lv_iload_n hx hb d_TT_passSecond_99 rfl (lv_at hl 0 rfl) ?_
                  refine va_aldq (C := "TwinTuners$Request") hx hb hK hP 1 1 rfl rfl (vp_in_nI (show k < 40 by omega) (by decide)) d_TT_passSecond_100 ?_
                  obtain ⟨a25, ea25, haa25, hna25⟩ := hC.2.2.2.2.2.1 k (by omega)
                  refine W.eq (g2 := F0 m 101 ls [.ref a25]) (by rw [nI_clamp (show k < 2 ^ 31 by omega), ea25]; rfl) ?_
                  obtain ⟨kq, hkq⟩ := pq_at (X := CX cd kI kQ sc24 ia20 qa) (kI := kI) (bk := bk) (rf := rf_87) (ba := ba) haa25 hna25
                  refine va_get (D := (dC, dI)) (ci := 4) (v := .int (rf_87 a25 8)) (C := R_RQ) (T := F_RQ) (N := 17) hx hb ht in_RQ hown hK hP kq hkq rfl 8 (by decide) (ht _ tb_392) (fun _ h9 => h9) rfl d_TT_passSecond_101 ?_
                  refine lv_iconst (v := 1) hx hb d_TT_passSecond_104 (by decide) ?_
                  refine lv_icmp_ne (tgt := 134) hx hb d_TT_passSecond_105 (by decide) (fun h105_11 => ?_) (fun h105_11 => ?_)
                  · have h105_11 := h105_11
                    have i105_11 := ti_ne h105_11
                    (try rw [l_1] at i105_11)
                    refine lv_iinc (k := 0) (v := nI (k + 1)) hx hb d_TT_passSecond_134 hl rfl ((nI_succ k).symm) (by decide) rfl (fun ls hl => ?_)
                    have hl : lv_has ls 4 [(3, .int (nI (k + 1))), (2, .int q), (0, .ref (cd 0))] := hl
                    refine lv_goto (tgt := 87) hx hb d_TT_passSecond_137 (by decide) ?_
                    exact ih_87 (k + 1) rf_87 H _ ls (by omega) (by omega) hC hl hP hD hS
                  · have h105_11 := h105_11
                    have i105_11 := ti_eq h105_11
                    (try rw [l_1] at i105_11)
                    refine lv_aload_n hx hb d_TT_passSecond_108 rfl (lv_at hl 2 rfl) ?_
                    refine va_get (D := (dC, dI)) (ci := 0) (v := .ref (cd 1)) (C := R_TT) (T := F_TT) (N := 8) hx hb ht in_TT hown hK hP 0 rfl rfl 0 (by decide) (ht _ tb_75) (fun _ h9 => h9) rfl d_TT_passSecond_109 ?_
                    refine lv_iload_n hx hb d_TT_passSecond_112 rfl (lv_at hl 0 rfl) ?_
                    refine va_aldq (C := "TwinTuners$Request") hx hb hK hP 1 1 rfl rfl (vp_in_nI (show k < 40 by omega) (by decide)) d_TT_passSecond_113 ?_
                    obtain ⟨a26, ea26, haa26, hna26⟩ := hC.2.2.2.2.2.1 k (by omega)
                    refine W.eq (g2 := F0 m 114 ls [.ref a26]) (by rw [nI_clamp (show k < 2 ^ 31 by omega), ea26]; rfl) ?_
                    obtain ⟨kq, hkq⟩ := pq_at (X := CX cd kI kQ sc24 ia20 qa) (kI := kI) (bk := bk) (rf := rf_87) (ba := ba) haa26 hna26
                    refine va_get (D := (dC, dI)) (ci := 4) (v := .int (rf_87 a26 10)) (C := R_RQ) (T := F_RQ) (N := 17) hx hb ht in_RQ hown hK hP kq hkq rfl 10 (by decide) (ht _ tb_398) (fun _ h9 => h9) rfl d_TT_passSecond_114 ?_
                    refine lv_aload_n hx hb d_TT_passSecond_117 rfl (lv_at hl 2 rfl) ?_
                    refine va_get (D := (dC, dI)) (ci := 0) (v := .int (sc24 1)) (C := R_TT) (T := F_TT) (N := 8) hx hb ht in_TT hown hK hP 0 rfl rfl 6 (by decide) (ht _ tb_81) (fun _ h9 => h9) rfl d_TT_passSecond_118 ?_
                    refine lv_icmp_ne (tgt := 134) hx hb d_TT_passSecond_121 (by decide) (fun h121_12 => ?_) (fun h121_12 => ?_)
                    · have h121_12 := h121_12
                      have i121_12 := ti_ne h121_12
                      refine lv_iinc (k := 0) (v := nI (k + 1)) hx hb d_TT_passSecond_134 hl rfl ((nI_succ k).symm) (by decide) rfl (fun ls hl => ?_)
                      have hl : lv_has ls 4 [(3, .int (nI (k + 1))), (2, .int q), (0, .ref (cd 0))] := hl
                      refine lv_goto (tgt := 87) hx hb d_TT_passSecond_137 (by decide) ?_
                      exact ih_87 (k + 1) rf_87 H _ ls (by omega) (by omega) hC hl hP hD hS
                    · have h121_12 := h121_12
                      have i121_12 := ti_eq h121_12
                      refine lv_aload_n hx hb d_TT_passSecond_124 rfl (lv_at hl 2 rfl) ?_
                      refine va_get (D := (dC, dI)) (ci := 0) (v := .ref (cd 1)) (C := R_TT) (T := F_TT) (N := 8) hx hb ht in_TT hown hK hP 0 rfl rfl 0 (by decide) (ht _ tb_75) (fun _ h9 => h9) rfl d_TT_passSecond_125 ?_
                      refine lv_iload_n hx hb d_TT_passSecond_128 rfl (lv_at hl 0 rfl) ?_
                      refine va_aldq (C := "TwinTuners$Request") hx hb hK hP 1 1 rfl rfl (vp_in_nI (show k < 40 by omega) (by decide)) d_TT_passSecond_129 ?_
                      obtain ⟨a27, ea27, haa27, hna27⟩ := hC.2.2.2.2.2.1 k (by omega)
                      refine W.eq (g2 := F0 m 130 ls [.ref a27]) (by rw [nI_clamp (show k < 2 ^ 31 by omega), ea27]; rfl) ?_
                      refine lv_iconst (v := 2) hx hb d_TT_passSecond_130 (by decide) ?_
                      obtain ⟨kq, hkq⟩ := pq_at (X := CX cd kI kQ sc24 ia20 qa) (kI := kI) (bk := bk) (rf := rf_87) (ba := ba) haa27 hna27
                      have hD0 := hD
                      refine va_put (D := (dC, dI)) (ci := 4) (v := .int 2) (ty := .int) (C := R_RQ) (T := F_RQ) (N := 17) hx hb ht in_RQ t_RQ t_RQ_ok n_RQ hown hK hP hD hS kq hkq rfl 8 (by decide) (ht _ tb_392) (fun _ h9 => h9) rfl (by decide +kernel) rfl rfl (Nat.le_of_ble_eq_true rfl) d_TT_passSecond_131 (fun H locs hP hD hS => ?_)
                      rw [pq_set hD0 haa27 hna27 hkq rfl] at hP hD
                      have hP : va_P (dC, dI) cls_ (CW cd kI kQ L isA bk sc24 ia20 qa (va_up rf_87 a27 (va_up (rf_87 a27) 8 2)) ba) H := hP
                      have hD : va_D A (CW cd kI kQ L isA bk sc24 ia20 qa (va_up rf_87 a27 (va_up (rf_87 a27) 8 2)) ba) := hD
                      obtain ⟨rf28, erf28⟩ : ∃ q9_, q9_ = va_up rf_87 a27 (va_up (rf_87 a27) 8 2) := ⟨_, rfl⟩
                      rw [← erf28] at hP hD
                      have hC : CI N L isA bk sc24 qa rf28 := by rw [erf28]; exact CI_r hC (by decide) (Or.inl (by decide))
                      refine lv_iinc (k := 0) (v := nI (k + 1)) hx hb d_TT_passSecond_134 hl rfl ((nI_succ k).symm) (by decide) rfl (fun ls hl => ?_)
                      have hl : lv_has ls 4 [(3, .int (nI (k + 1))), (2, .int q), (0, .ref (cd 0))] := hl
                      refine lv_goto (tgt := 87) hx hb d_TT_passSecond_137 (by decide) ?_
                      exact ih_87 (k + 1) rf28 H _ ls (by omega) (by omega) hC hl hP hD hS
            have hl := lv_sub hl [0, 1, 3] (l' := [(3, .int 0), (2, .int q), (0, .ref (cd 0))]) rfl
            have hl : lv_has ls 4 [(3, .int (nI 0)), (2, .int q), (0, .ref (cd 0))] := hl
            exact J_87 ((N - 0) + 1) 0 rf_4 H _ ls (by omega) (by omega) hC hl hP hD hS
      · have h9_1 := h9_1
        have i9_1 := ti_nle h9_1
        (try rw [nI_toInt (show k < 2 ^ 31 by omega)] at i9_1)
        (try rw [nI_toInt (show N < 2 ^ 31 by omega)] at i9_1)
        refine lv_aload_n hx hb d_TT_passSecond_12 rfl (lv_at hl 3 rfl) ?_
        refine va_get (D := (dC, dI)) (ci := 0) (v := .ref (cd 1)) (C := R_TT) (T := F_TT) (N := 8) hx hb ht in_TT hown hK hP 0 rfl rfl 0 (by decide) (ht _ tb_75) (fun _ h9 => h9) rfl d_TT_passSecond_13 ?_
        refine lv_iload_n hx hb d_TT_passSecond_16 rfl (lv_at hl 0 rfl) ?_
        refine va_aldq (C := "TwinTuners$Request") hx hb hK hP 1 1 rfl rfl (vp_in_nI (show k < 40 by omega) (by decide)) d_TT_passSecond_17 ?_
        obtain ⟨a29, ea29, haa29, hna29⟩ := hC.2.2.2.2.2.1 k (by omega)
        refine W.eq (g2 := F0 m 18 ls [.ref a29]) (by rw [nI_clamp (show k < 2 ^ 31 by omega), ea29]; rfl) ?_
        obtain ⟨kq, hkq⟩ := pq_at (X := CX cd kI kQ sc ia_4 qa) (kI := kI) (bk := bk) (rf := rf_4) (ba := ba) haa29 hna29
        refine va_get (D := (dC, dI)) (ci := 4) (v := .int (rf_4 a29 8)) (C := R_RQ) (T := F_RQ) (N := 17) hx hb ht in_RQ hown hK hP kq hkq rfl 8 (by decide) (ht _ tb_392) (fun _ h9 => h9) rfl d_TT_passSecond_18 ?_
        refine lv_iconst (v := 1) hx hb d_TT_passSecond_21 (by decide) ?_
        refine lv_icmp_ne (tgt := 41) hx hb d_TT_passSecond_22 (by decide) (fun h22_13 => ?_) (fun h22_13 => ?_)
        · have h22_13 := h22_13
          have i22_13 := ti_ne h22_13
          (try rw [l_1] at i22_13)
          refine lv_iinc (k := 0) (v := nI (k + 1)) hx hb d_TT_passSecond_41 hl rfl ((nI_succ k).symm) (by decide) rfl (fun ls hl => ?_)
          have hl : lv_has ls 4 [(3, .int (nI (k + 1))), (2, .int q), (1, .int x), (0, .ref (cd 0))] := hl
          refine lv_goto (tgt := 4) hx hb d_TT_passSecond_44 (by decide) ?_
          exact ih_4 (k + 1) q ia_4 rf_4 H _ ls (by omega) (by omega) hC hl hP hD hS
        · have h22_13 := h22_13
          have i22_13 := ti_eq h22_13
          (try rw [l_1] at i22_13)
          refine lv_aload_n hx hb d_TT_passSecond_25 rfl (lv_at hl 3 rfl) ?_
          refine lv_aload_n hx hb d_TT_passSecond_26 rfl (lv_at hl 3 rfl) ?_
          refine va_get (D := (dC, dI)) (ci := 0) (v := .ref (cd 1)) (C := R_TT) (T := F_TT) (N := 8) hx hb ht in_TT hown hK hP 0 rfl rfl 0 (by decide) (ht _ tb_75) (fun _ h9 => h9) rfl d_TT_passSecond_27 ?_
          refine lv_iload_n hx hb d_TT_passSecond_30 rfl (lv_at hl 0 rfl) ?_
          refine va_aldq (C := "TwinTuners$Request") hx hb hK hP 1 1 rfl rfl (vp_in_nI (show k < 40 by omega) (by decide)) d_TT_passSecond_31 ?_
          obtain ⟨a30, ea30, haa30, hna30⟩ := hC.2.2.2.2.2.1 k (by omega)
          refine W.eq (g2 := F0 m 32 ls [.ref a30, .ref (cd 0)]) (by rw [nI_clamp (show k < 2 ^ 31 by omega), ea30]; rfl) ?_
          refine t_call (u0 := (sc, ia_4, qa, rf_4, ba)) (va_runV (C := R_TT) (As := [.ref a30]) (rest := []) ⟨hx, hb, hml, hown, ht⟩ (k_TT_recordSecond l dC dI cd kI kQ L isA bk sc ia_4 qa rf_4 ba H.size Bd N hC a30 haa30 hna30) (cwV 1 ht (gV tb_176 tb_178 ts_11 tb_1 tb_179) rfl rfl rfl (by decide +kernel) ⟨Nat.le_of_ble_eq_true rfl, Nat.le_of_ble_eq_true rfl⟩) ⟨frP_blind, va_recv (q := (R_TT, F_TT, 8)) hK hP rfl (show (CW cd kI kQ L isA bk sc ia_4 qa rf_4 ba : va_W)[0]? = some _ from rfl), fr_pre hP hK hD hAB hBs hS hV⟩ rfl rfl hl.1 rfl (lv_room (Nat.le_of_ble_eq_true rfl)) d_TT_passSecond_32 ⟨Nat.le_of_ble_eq_true rfl, Nat.le_of_ble_eq_true rfl⟩) hD hS hA (fun r31 u H locs hu hP hD hS => ?_)
          obtain ⟨sc32, ia33, qa34, rf35, ba36⟩ := u
          obtain ⟨hu31_0, hu31_1, hu31_2, hu31_3⟩ := hu
          have hu31_0 : sc = sc32 := hu31_0
          have hu31_1 : qa = qa34 := hu31_1
          have hu31_2 : ba = ba36 := hu31_2
          have hu31_3 : CI N L isA bk sc32 qa34 rf35 := hu31_3
          subst hu31_0
          subst hu31_1
          subst hu31_2
          have hP : va_P (dC, dI) cls_ (CW cd kI kQ L isA bk sc ia33 qa rf35 ba) H := hP
          have hD : va_D A (CW cd kI kQ L isA bk sc ia33 qa rf35 ba) := hD
          have hC : CI N L isA bk sc qa rf35 := hu31_3
          refine W.eq (g2 := F0 m 35 ls [.int r31]) rfl ?_
          refine W.cs (cells' := 0) (slots' := 0) rfl rfl ?_
          refine lv_if_eq (tgt := 41) hx hb d_TT_passSecond_35 (by decide) (fun h35_14 => ?_) (fun h35_14 => ?_)
          · have h35_14 := h35_14
            have i35_14 := ti_eq h35_14
            (try rw [l_0] at i35_14)
            refine lv_iinc (k := 0) (v := nI (k + 1)) hx hb d_TT_passSecond_41 hl rfl ((nI_succ k).symm) (by decide) rfl (fun ls hl => ?_)
            have hl : lv_has ls 4 [(3, .int (nI (k + 1))), (2, .int q), (1, .int x), (0, .ref (cd 0))] := hl
            refine lv_goto (tgt := 4) hx hb d_TT_passSecond_44 (by decide) ?_
            exact ih_4 (k + 1) q ia33 rf35 H _ ls (by omega) (by omega) hC hl hP hD hS
          · have h35_14 := h35_14
            have i35_14 := ti_ne h35_14
            (try rw [l_0] at i35_14)
            refine lv_iinc (k := 1) (v := q + 1) hx hb d_TT_passSecond_38 hl rfl (rfl) (by decide) rfl (fun ls hl => ?_)
            have hl : lv_has ls 4 [(2, .int (q + 1)), (3, .int (nI k)), (1, .int x), (0, .ref (cd 0))] := hl
            refine lv_iinc (k := 1) (v := nI (k + 1)) hx hb d_TT_passSecond_41 hl rfl ((nI_succ k).symm) (by decide) rfl (fun ls hl => ?_)
            have hl : lv_has ls 4 [(3, .int (nI (k + 1))), (2, .int (q + 1)), (1, .int x), (0, .ref (cd 0))] := hl
            refine lv_goto (tgt := 4) hx hb d_TT_passSecond_44 (by decide) ?_
            exact ih_4 (k + 1) (q + 1) ia33 rf35 H _ ls (by omega) (by omega) hC hl hP hD hS
  have hl := lv_sub hl [0, 1, 3, 2] (l' := [(3, .int 0), (2, .int 0), (1, .int x), (0, .ref (cd 0))]) rfl
  have hl : lv_has ls 4 [(3, .int (nI 0)), (2, .int 0), (1, .int x), (0, .ref (cd 0))] := hl
  exact J_4 ((N - 0) + 1) 0 0 ia rf s.heap _ ls (by omega) (by omega) hC hl hP hD hS
set_option maxHeartbeats 8000000 in
set_option maxRecDepth 100000 in
theorem k_TT_tick (l : Launch) (dC : Nat → ClassId) (dI : Nat → Nat → Nat) (cd : Nat → Nat) (kI kQ : ClassId) (L : List Nat) (isA : Nat → Bool) (bk : Nat → Nat) (sc : Nat → Int32) (ia : Nat → Nat → Int32) (qa : Nat → Nat → Option Nat) (rf ba : Nat → Nat → Int32) (sz Bd : Nat) (N : Nat) (hC : CI N L isA bk sc qa rf)  : Met l y_TT_tick w_TT_tick ({ frames := 7, cells := 0, slots := 0, locals := 163 }) (frP (dC, dI) (CW cd kI kQ L isA bk sc ia qa rf ba) (CT kI kQ) sz Bd [.ref (cd 0)]) (tQ (dC, dI) (cW cd kI kQ L isA bk) (va_A (CW cd kI kQ L isA bk sc ia qa rf ba) sz) vI (fun r u => same [1, 3, 4, 5] sc u.1 ∧ ba = u.2.2.2.2 ∧ CI N L isA bk u.1 u.2.2.1 u.2.2.2.1 ∧ u.1 1 = sc 1 + 1)) 0 0 (va_A (CW cd kI kQ L isA bk sc ia qa rf ba) sz) := by
  refine Met.ofW (cc := c_TT_tick) (maxL := 2) (ret := (some .int)) (by decide) rfl ?_
  intro p e s m args below meth c s₁ B hml hv
  obtain ⟨rfl, ⟨hsz, hBs⟩, hP, hK, hD0, hV⟩ := hv
  have hx := B.exec
  have hb := B.bytes
  have hr := B.returns
  have ht : ∀ w ∈ tb_, w.before _ s = true := fun w h => atoms_spec (ws := w_TT_tick) B.pre w (List.mem_cons_of_mem _ h)
  have hown : s.vm.findClass R_TT = some m.cls := findClass_of_methodNamed B.named
  have hlocks := B.notSynchronized
  subst hsz
  have hD := hD0.self (sz := s.heap.size)
  have hAB : ∀ q, va_A (CW cd kI kQ L isA bk sc ia qa rf ba) s.heap.size q → Bd ≤ q := fr_AB hD0 hBs
  generalize hAe : va_A (CW cd kI kQ L isA bk sc ia qa rf ba) s.heap.size = A at hD hAB ⊢
  have hA : ∀ q : Nat, s.heap.size ≤ q → A q := fun q h => by rw [← hAe]; exact Or.inr h
  have hS : va_S A s.heap s.heap [] := va_S.rf
  have hs : same [1, 3, 4, 5] sc sc := same.rf
  have hP : va_P (dC, dI) cls_ (CW cd kI kQ L isA bk sc ia qa rf ba) s.heap := hP
  have hl := lv_entry ([.ref (cd 0)]) (n := 2) (Nat.le_of_ble_eq_true rfl)
  rw [lg_entry_eq]
  generalize (lg_sl ([.ref (cd 0)]) ++ List.replicate (2 - (lg_sl ([.ref (cd 0)])).length) Slot.unset).toArray = ls at hl ⊢
  have hl : lv_has ls 2 [(0, .ref (cd 0))] := hl
  have hN := hC.1.1
  refine lv_aload_n hx hb d_TT_tick_0 rfl (lv_at hl 0 rfl) ?_
  refine t_call (u0 := (sc, ia, qa, rf, ba)) (va_runV (C := R_TT) (As := []) (rest := []) ⟨hx, hb, hml, hown, ht⟩ (k_TT_tune l dC dI cd kI kQ L isA bk sc ia qa rf ba s.heap.size Bd N hC) (cwV 0 ht (gV tb_104 tb_106 ts_0 tb_1 tb_107) rfl rfl rfl (by decide +kernel) ⟨Nat.le_of_ble_eq_true rfl, Nat.le_of_ble_eq_true rfl⟩) ⟨frP_blind, va_recv (q := (R_TT, F_TT, 8)) hK hP rfl (show (CW cd kI kQ L isA bk sc ia qa rf ba : va_W)[0]? = some _ from rfl), fr_pre hP hK hD hAB hBs hS hV⟩ rfl rfl hl.1 rfl (lv_room (Nat.le_of_ble_eq_true rfl)) d_TT_tick_1 ⟨Nat.le_of_ble_eq_true rfl, Nat.le_of_ble_eq_true rfl⟩) hD hS hA (fun r1 u H locs hu hP hD hS => ?_)
  obtain ⟨sc2, ia3, qa4, rf5, ba6⟩ := u
  obtain ⟨hu1_0, hu1_1, hu1_2, hu1_3⟩ := hu
  have hu1_0 : same [3] sc sc2 := hu1_0
  have hu1_1 : ia = ia3 := hu1_1
  have hu1_2 : ba = ba6 := hu1_2
  have hu1_3 : CI N L isA bk sc2 qa4 rf5 := hu1_3
  subst hu1_1
  subst hu1_2
  have hu1_0 : same [3] sc sc2 := hu1_0
  have hP : va_P (dC, dI) cls_ (CW cd kI kQ L isA bk sc2 ia qa4 rf5 ba) H := hP
  have hD : va_D A (CW cd kI kQ L isA bk sc2 ia qa4 rf5 ba) := hD
  have hC : CI N L isA bk sc2 qa4 rf5 := hu1_3
  have hs : same [1, 3, 4, 5] sc sc2 := hs.tr (hu1_0.wk (by decide))
  refine W.eq (g2 := F0 m 4 ls [.int r1]) rfl ?_
  refine W.cs (cells' := 0) (slots' := 0) rfl rfl ?_
  refine lv_istore_n hx hb d_TT_tick_4 rfl hl (by decide) rfl (fun ls hl => ?_)
  have hl : lv_has ls 2 [(1, .int r1), (0, .ref (cd 0))] := hl
  refine lv_aload_n hx hb d_TT_tick_5 rfl (lv_at hl 1 rfl) ?_
  refine lv_iload_n hx hb d_TT_tick_6 rfl (lv_at hl 0 rfl) ?_
  refine t_call (u0 := (sc2, ia, qa4, rf5, ba)) (va_runV (C := R_TT) (As := [.int r1]) (rest := []) ⟨hx, hb, hml, hown, ht⟩ (k_TT_passSecond l dC dI cd kI kQ L isA bk sc2 ia qa4 rf5 ba H.size Bd N hC r1) (cwV 1 ht (gV tb_172 tb_174 ts_10 tb_1 tb_175) rfl rfl rfl (by decide +kernel) ⟨Nat.le_of_ble_eq_true rfl, Nat.le_of_ble_eq_true rfl⟩) ⟨frP_blind, va_recv (q := (R_TT, F_TT, 8)) hK hP rfl (show (CW cd kI kQ L isA bk sc2 ia qa4 rf5 ba : va_W)[0]? = some _ from rfl), fr_pre hP hK hD hAB hBs hS hV⟩ rfl rfl hl.1 rfl (lv_room (Nat.le_of_ble_eq_true rfl)) d_TT_tick_7 ⟨Nat.le_of_ble_eq_true rfl, Nat.le_of_ble_eq_true rfl⟩) hD hS hA (fun r7 u H locs hu hP hD hS => ?_)
  obtain ⟨sc8, ia9, qa10, rf11, ba12⟩ := u
  obtain ⟨hu7_0, hu7_1, hu7_2, hu7_3, hu7_4⟩ := hu
  have hu7_0 : same [1, 4, 5] sc2 sc8 := hu7_0
  have hu7_1 : qa4 = qa10 := hu7_1
  have hu7_2 : ba = ba12 := hu7_2
  have hu7_3 : CI N L isA bk sc8 qa10 rf11 := hu7_3
  have hu7_4 : sc8 1 = sc2 1 + 1 := hu7_4
  subst hu7_1
  subst hu7_2
  have hu7_4 : sc8 1 = sc2 1 + 1 := hu7_4
  have hu7_0 : same [1, 4, 5] sc2 sc8 := hu7_0
  have hP : va_P (dC, dI) cls_ (CW cd kI kQ L isA bk sc8 ia9 qa4 rf11 ba) H := hP
  have hD : va_D A (CW cd kI kQ L isA bk sc8 ia9 qa4 rf11 ba) := hD
  have hC : CI N L isA bk sc8 qa4 rf11 := hu7_3
  have hs : same [1, 3, 4, 5] sc sc8 := hs.tr (hu7_0.wk (by decide))
  refine W.eq (g2 := F0 m 10 ls [.int r7]) rfl ?_
  refine W.cs (cells' := 0) (slots' := 0) rfl rfl ?_
  refine lv_pop hx hb d_TT_tick_10 rfl ?_
  refine lv_iload_n hx hb d_TT_tick_11 rfl (lv_at hl 0 rfl) ?_
  have hz0 : sc8 1 = sc 1 + 1 := by rw [hu7_4]; rw [hu1_0 1 (by decide)]
  exact W.iret (v := r1) hx hb hr (fun t ht9 hW => ⟨⟨r1, (sc8, ia9, qa4, rf11, ba), rfl, ⟨hs, rfl, hC, hz0⟩, by rw [ht9]; exact hP, hD⟩, hS.F ht9⟩) hS.2.2 d_TT_tick_12
