theorem pr1 {q : MethodName × Nat} (i : Nat) (h : lw_privs_1[i]? = some q) : Cond.selects q.1.cls q.1 q.1 ∈ tbl := inS (List.mem_append_left _ (List.mem_of_getElem? h))
theorem pr2 {q : MethodName × Nat} (i : Nat) (h : lw_privs_2[i]? = some q) : Cond.selects q.1.cls q.1 q.1 ∈ tbl := inS (List.mem_append_right _ (List.mem_append_left _ (List.mem_of_getElem? h)))
theorem pr3 {q : MethodName × Nat} (i : Nat) (h : lw_privs_3[i]? = some q) : Cond.selects q.1.cls q.1 q.1 ∈ tbl := inS (List.mem_append_right _ (List.mem_append_right _ (List.mem_append_left _ (List.mem_of_getElem? h))))
theorem pr4 {q : MethodName × Nat} (i : Nat) (h : lw_privs_4[i]? = some q) : Cond.selects q.1.cls q.1 q.1 ∈ tbl := inS (List.mem_append_right _ (List.mem_append_right _ (List.mem_append_right _ (List.mem_append_left _ (List.mem_of_getElem? h)))))
theorem pr5 {q : MethodName × Nat} (i : Nat) (h : lw_privs_5[i]? = some q) : Cond.selects q.1.cls q.1 q.1 ∈ tbl := inS (List.mem_append_right _ (List.mem_append_right _ (List.mem_append_right _ (List.mem_append_right _ (List.mem_append_left _ (List.mem_of_getElem? h))))))
theorem pr6 {q : MethodName × Nat} (i : Nat) (h : lw_privs_6[i]? = some q) : Cond.selects q.1.cls q.1 q.1 ∈ tbl := inS (List.mem_append_right _ (List.mem_append_right _ (List.mem_append_right _ (List.mem_append_right _ (List.mem_append_right _ (List.mem_append_left _ (List.mem_of_getElem? h)))))))
theorem pr7 {q : MethodName × Nat} (i : Nat) (h : lw_privs_7[i]? = some q) : Cond.selects q.1.cls q.1 q.1 ∈ tbl := inS (List.mem_append_right _ (List.mem_append_right _ (List.mem_append_right _ (List.mem_append_right _ (List.mem_append_right _ (List.mem_append_right _ (List.mem_of_getElem? h)))))))
theorem objI : Cond.instanceMethod Lib.objectInit ∈ tbl := (in1 28 rfl rfl)
theorem objC : Cond.code Lib.objectInit ⟨#[0xb1]⟩ 1 none ∈ tbl := in1 29 rfl rfl
theorem mth_i : Cond.initialized "java/lang/Math" ∈ tbl := (in1 5 rfl rfl)
theorem mthmax_s : Cond.static Lib.Math.max.name ∈ tbl := (in1 59 rfl rfl)
theorem mthmax_c : Cond.code Lib.Math.max.name Lib.Math.max.code 2 (some .int) ∈ tbl := in1 60 rfl rfl
theorem mthmin_s : Cond.static Lib.Math.min.name ∈ tbl := (in2 88 rfl rfl)
theorem mthmin_c : Cond.code Lib.Math.min.name Lib.Math.min.code 2 (some .int) ∈ tbl := in2 89 rfl rfl
theorem mthabs_s : Cond.static Lib.MathLoose.abs_long.x ∈ tbl := (in5 155 rfl rfl)
theorem mthabs_c : Cond.code Lib.MathLoose.abs_long.x Lib.MathLoose.abs_long.code 2 (some .long) ∈ tbl := in5 156 rfl rfl
theorem ini_RX0 : Cond.initialized RX0 ∈ tbl := (in1 2 rfl rfl)
theorem ini_RX1 : Cond.initialized RX1 ∈ tbl := (in1 3 rfl rfl)
theorem ini_RX2 : Cond.initialized RX2 ∈ tbl := (in1 16 rfl rfl)
theorem ini_RX3 : Cond.initialized RX3 ∈ tbl := (in1 20 rfl rfl)
theorem ini_RX4 : Cond.initialized RX4 ∈ tbl := (in1 6 rfl rfl)
theorem ini_RX5 : Cond.initialized RX5 ∈ tbl := (in1 18 rfl rfl)
theorem ini_RX6 : Cond.initialized RX6 ∈ tbl := (in1 19 rfl rfl)
theorem ini_RX7 : Cond.initialized RX7 ∈ tbl := (in1 4 rfl rfl)
theorem ini_RX8 : Cond.initialized RX8 ∈ tbl := (in1 15 rfl rfl)
theorem ini_RX9 : Cond.initialized RX9 ∈ tbl := (in1 17 rfl rfl)
theorem ini_RX10 : Cond.initialized RX10 ∈ tbl := (in1 7 rfl rfl)
theorem ini_RX11 : Cond.initialized RX11 ∈ tbl := (in1 1 rfl rfl)
theorem ini_RX12 : Cond.initialized RX12 ∈ tbl := (in1 12 rfl rfl)
theorem ini_RJ13 : Cond.initialized RJ13 ∈ tbl := (in1 21 rfl rfl)
theorem ini_RJ9 : Cond.initialized RJ9 ∈ tbl := (in1 5 rfl rfl)
theorem ini_RJ0 : Cond.initialized RJ0 ∈ tbl := (in1 8 rfl rfl)
theorem ini_RJ1 : Cond.initialized RJ1 ∈ tbl := (in1 9 rfl rfl)
theorem ini_RJ2 : Cond.initialized RJ2 ∈ tbl := (in1 11 rfl rfl)
theorem ini_RJ10 : Cond.initialized RJ10 ∈ tbl := (in1 14 rfl rfl)
theorem ini_RJ7 : Cond.initialized RJ7 ∈ tbl := (in1 13 rfl rfl)
theorem ini_RJ3 : Cond.initialized RJ3 ∈ tbl := (in1 10 rfl rfl)
theorem ini_RL : Cond.initialized RL ∈ tbl := (in1 0 rfl rfl)
theorem mc_X0_init : Cond.code yX0_init cX0_init 1 (none) ∈ tbl := in1 34 rfl rfl
theorem ok_X0_init : okY yX0_init 0 := ⟨by decide, by decide, by decide⟩
theorem mi_X0_init : Cond.instanceMethod yX0_init ∈ tbl := (in1 33 rfl rfl)
theorem mc_X0_add : Cond.code yX0_add cX0_add 3 (none) ∈ tbl := in2 85 rfl rfl
theorem ok_X0_add : okY yX0_add 1 := ⟨by decide, by decide, by decide⟩
theorem mi_X0_add : Cond.instanceMethod yX0_add ∈ tbl := (in2 83 rfl rfl)
theorem ms_X0_add : Cond.selects RX0 yX0_add yX0_add ∈ tbl := (in2 84 rfl rfl)
theorem mc_X0_byteAt : Cond.code yX0_byteAt cX0_byteAt 2 (some .int) ∈ tbl := in2 132 rfl rfl
theorem ok_X0_byteAt : okY yX0_byteAt 1 := ⟨by decide, by decide, by decide⟩
theorem mi_X0_byteAt : Cond.instanceMethod yX0_byteAt ∈ tbl := (in2 130 rfl rfl)
theorem ms_X0_byteAt : Cond.selects RX0 yX0_byteAt yX0_byteAt ∈ tbl := (in2 131 rfl rfl)
theorem mc_X0_addWord : Cond.code yX0_addWord cX0_addWord 2 (none) ∈ tbl := in2 81 rfl rfl
theorem ok_X0_addWord : okY yX0_addWord 1 := ⟨by decide, by decide, by decide⟩
theorem mi_X0_addWord : Cond.instanceMethod yX0_addWord ∈ tbl := (in2 79 rfl rfl)
theorem ms_X0_addWord : Cond.selects RX0 yX0_addWord yX0_addWord ∈ tbl := (in2 80 rfl rfl)
theorem mc_X0_addText : Cond.code yX0_addText cX0_addText 3 (none) ∈ tbl := in5 130 rfl rfl
theorem ok_X0_addText : okY yX0_addText 1 := ⟨by decide, by decide, by decide⟩
theorem mi_X0_addText : Cond.instanceMethod yX0_addText ∈ tbl := (in5 128 rfl rfl)
theorem ms_X0_addText : Cond.selects RX0 yX0_addText yX0_addText ∈ tbl := (in5 129 rfl rfl)
theorem mc_X0_addName : Cond.code yX0_addName cX0_addName 5 (none) ∈ tbl := in5 140 rfl rfl
theorem ok_X0_addName : okY yX0_addName 1 := ⟨by decide, by decide, by decide⟩
theorem mi_X0_addName : Cond.instanceMethod yX0_addName ∈ tbl := (in5 138 rfl rfl)
theorem ms_X0_addName : Cond.selects RX0 yX0_addName yX0_addName ∈ tbl := (in5 139 rfl rfl)
theorem mc_X0_addNumber : Cond.code yX0_addNumber cX0_addNumber 8 (none) ∈ tbl := in5 153 rfl rfl
theorem ok_X0_addNumber : okY yX0_addNumber 1 := ⟨by decide, by decide, by decide⟩
theorem mi_X0_addNumber : Cond.instanceMethod yX0_addNumber ∈ tbl := (in5 151 rfl rfl)
theorem ms_X0_addNumber : Cond.selects RX0 yX0_addNumber yX0_addNumber ∈ tbl := (in5 152 rfl rfl)
theorem mc_X1_init : Cond.code yX1_init cX1_init 1 (none) ∈ tbl := in1 50 rfl rfl
theorem ok_X1_init : okY yX1_init 0 := ⟨by decide, by decide, by decide⟩
theorem mi_X1_init : Cond.instanceMethod yX1_init ∈ tbl := (in1 49 rfl rfl)
theorem mc_X1_keep : Cond.code yX1_keep cX1_keep 1 (none) ∈ tbl := in3 186 rfl rfl
theorem ok_X1_keep : okY yX1_keep 0 := ⟨by decide, by decide, by decide⟩
theorem mi_X1_keep : Cond.instanceMethod yX1_keep ∈ tbl := (in3 184 rfl rfl)
theorem ms_X1_keep : Cond.selects RX1 yX1_keep yX1_keep ∈ tbl := (in3 185 rfl rfl)
theorem mc_X1_drop : Cond.code yX1_drop cX1_drop 1 (none) ∈ tbl := in3 190 rfl rfl
theorem ok_X1_drop : okY yX1_drop 0 := ⟨by decide, by decide, by decide⟩
theorem mi_X1_drop : Cond.instanceMethod yX1_drop ∈ tbl := (in3 188 rfl rfl)
theorem ms_X1_drop : Cond.selects RX1 yX1_drop yX1_drop ∈ tbl := (in3 189 rfl rfl)
theorem mc_X1_placesOf : Cond.code yX1_placesOf cX1_placesOf 2 (some .int) ∈ tbl := in3 118 rfl rfl
theorem ok_X1_placesOf : okY yX1_placesOf 1 := ⟨by decide, by decide, by decide⟩
theorem mi_X1_placesOf : Cond.instanceMethod yX1_placesOf ∈ tbl := (in3 116 rfl rfl)
theorem ms_X1_placesOf : Cond.selects RX1 yX1_placesOf yX1_placesOf ∈ tbl := (in3 117 rfl rfl)
theorem mc_X1_setPlaces : Cond.code yX1_setPlaces cX1_setPlaces 3 (none) ∈ tbl := in3 138 rfl rfl
theorem ok_X1_setPlaces : okY yX1_setPlaces 2 := ⟨by decide, by decide, by decide⟩
theorem mi_X1_setPlaces : Cond.instanceMethod yX1_setPlaces ∈ tbl := (in3 136 rfl rfl)
theorem ms_X1_setPlaces : Cond.selects RX1 yX1_setPlaces yX1_setPlaces ∈ tbl := (in3 137 rfl rfl)
theorem mc_X1_lawColumn : Cond.code yX1_lawColumn cX1_lawColumn 4 (some .int) ∈ tbl := in4 182 rfl rfl
theorem ok_X1_lawColumn : okY yX1_lawColumn 2 := ⟨by decide, by decide, by decide⟩
theorem mi_X1_lawColumn : Cond.instanceMethod yX1_lawColumn ∈ tbl := (in4 180 rfl rfl)
theorem ms_X1_lawColumn : Cond.selects RX1 yX1_lawColumn yX1_lawColumn ∈ tbl := (in4 181 rfl rfl)
theorem mc_X1_setLaw : Cond.code yX1_setLaw cX1_setLaw 7 (none) ∈ tbl := in3 146 rfl rfl
theorem ok_X1_setLaw : okY yX1_setLaw 5 := ⟨by decide, by decide, by decide⟩
theorem mi_X1_setLaw : Cond.instanceMethod yX1_setLaw ∈ tbl := (in3 144 rfl rfl)
theorem ms_X1_setLaw : Cond.selects RX1 yX1_setLaw yX1_setLaw ∈ tbl := (in3 145 rfl rfl)
theorem mc_X1_ruleAt : Cond.code yX1_ruleAt cX1_ruleAt 2 (some (.object "StatuteBench$Rule")) ∈ tbl := in3 178 rfl rfl
theorem ok_X1_ruleAt : okY yX1_ruleAt 1 := ⟨by decide, by decide, by decide⟩
theorem mi_X1_ruleAt : Cond.instanceMethod yX1_ruleAt ∈ tbl := (in3 176 rfl rfl)
theorem ms_X1_ruleAt : Cond.selects RX1 yX1_ruleAt yX1_ruleAt ∈ tbl := (in3 177 rfl rfl)
theorem mc_X1_newRule : Cond.code yX1_newRule cX1_newRule 3 (some (.object "StatuteBench$Rule")) ∈ tbl := in2 211 rfl rfl
theorem ok_X1_newRule : okY yX1_newRule 2 := ⟨by decide, by decide, by decide⟩
theorem mi_X1_newRule : Cond.instanceMethod yX1_newRule ∈ tbl := (in2 209 rfl rfl)
theorem ms_X1_newRule : Cond.selects RX1 yX1_newRule yX1_newRule ∈ tbl := (in2 210 rfl rfl)
theorem mc_X1_addOver : Cond.code yX1_addOver cX1_addOver 3 (none) ∈ tbl := in3 182 rfl rfl
theorem ok_X1_addOver : okY yX1_addOver 2 := ⟨by decide, by decide, by decide⟩
theorem mi_X1_addOver : Cond.instanceMethod yX1_addOver ∈ tbl := (in3 180 rfl rfl)
theorem ms_X1_addOver : Cond.selects RX1 yX1_addOver yX1_addOver ∈ tbl := (in3 181 rfl rfl)
theorem mc_X1_addStep : Cond.code yX1_addStep cX1_addStep 3 (none) ∈ tbl := in3 85 rfl rfl
theorem ok_X1_addStep : okY yX1_addStep 2 := ⟨by decide, by decide, by decide⟩
theorem mi_X1_addStep : Cond.instanceMethod yX1_addStep ∈ tbl := (in3 83 rfl rfl)
theorem ms_X1_addStep : Cond.selects RX1 yX1_addStep yX1_addStep ∈ tbl := (in3 84 rfl rfl)
theorem mc_X1_isRanked : Cond.code yX1_isRanked cX1_isRanked 3 (some .boolean) ∈ tbl := in3 174 rfl rfl
theorem ok_X1_isRanked : okY yX1_isRanked 1 := ⟨by decide, by decide, by decide⟩
theorem mi_X1_isRanked : Cond.instanceMethod yX1_isRanked ∈ tbl := (in3 172 rfl rfl)
theorem ms_X1_isRanked : Cond.selects RX1 yX1_isRanked yX1_isRanked ∈ tbl := (in3 173 rfl rfl)
theorem mc_X1_isAbove : Cond.code yX1_isAbove cX1_isAbove 8 (some .boolean) ∈ tbl := in4 190 rfl rfl
theorem ok_X1_isAbove : okY yX1_isAbove 2 := ⟨by decide, by decide, by decide⟩
theorem mi_X1_isAbove : Cond.instanceMethod yX1_isAbove ∈ tbl := (in4 188 rfl rfl)
theorem ms_X1_isAbove : Cond.selects RX1 yX1_isAbove yX1_isAbove ∈ tbl := (in4 189 rfl rfl)
theorem mc_X1_isInForce : Cond.code yX1_isInForce cX1_isInForce 5 (some .boolean) ∈ tbl := in4 178 rfl rfl
theorem ok_X1_isInForce : okY yX1_isInForce 3 := ⟨by decide, by decide, by decide⟩
theorem mi_X1_isInForce : Cond.instanceMethod yX1_isInForce ∈ tbl := (in4 176 rfl rfl)
theorem ms_X1_isInForce : Cond.selects RX1 yX1_isInForce yX1_isInForce ∈ tbl := (in4 177 rfl rfl)
theorem mc_X1_literal : Cond.code yX1_literal cX1_literal 9 (some .int) ∈ tbl := in3 211 rfl rfl
theorem ok_X1_literal : okY yX1_literal 6 := ⟨by decide, by decide, by decide⟩
theorem mi_X1_literal : Cond.instanceMethod yX1_literal ∈ tbl := (in3 209 rfl rfl)
theorem ms_X1_literal : Cond.selects RX1 yX1_literal yX1_literal ∈ tbl := (in3 210 rfl rfl)
theorem mc_X1_literalNumber : Cond.code yX1_literalNumber cX1_literalNumber 4 (some .int) ∈ tbl := in3 214 rfl rfl
theorem ok_X1_literalNumber : okY yX1_literalNumber 4 := ⟨by decide, by decide, by decide⟩
theorem mt_X1_literalNumber : Cond.static yX1_literalNumber ∈ tbl := (in3 213 rfl rfl)
theorem mc_X2_init : Cond.code yX2_init cX2_init 1 (none) ∈ tbl := in2 222 rfl rfl
theorem ok_X2_init : okY yX2_init 0 := ⟨by decide, by decide, by decide⟩
theorem mi_X2_init : Cond.instanceMethod yX2_init ∈ tbl := (in2 221 rfl rfl)
theorem mc_X3_init : Cond.code yX3_init cX3_init 1 (none) ∈ tbl := in4 28 rfl rfl
theorem ok_X3_init : okY yX3_init 0 := ⟨by decide, by decide, by decide⟩
theorem mi_X3_init : Cond.instanceMethod yX3_init ∈ tbl := (in4 27 rfl rfl)
theorem mc_X3_become : Cond.code yX3_become cX3_become 12 (none) ∈ tbl := in4 221 rfl rfl
theorem ok_X3_become : okY yX3_become 2 := ⟨by decide, by decide, by decide⟩
theorem mi_X3_become : Cond.instanceMethod yX3_become ∈ tbl := (in4 219 rfl rfl)
theorem ms_X3_become : Cond.selects RX3 yX3_become yX3_become ∈ tbl := (in4 220 rfl rfl)
theorem mc_X3_copy : Cond.code yX3_copy cX3_copy 2 (none) ∈ tbl := in5 3 rfl rfl
theorem ok_X3_copy : okY yX3_copy 1 := ⟨by decide, by decide, by decide⟩
theorem mi_X3_copy : Cond.instanceMethod yX3_copy ∈ tbl := (in5 1 rfl rfl)
theorem ms_X3_copy : Cond.selects RX3 yX3_copy yX3_copy ∈ tbl := (in5 2 rfl rfl)
theorem mc_X3_negate : Cond.code yX3_negate cX3_negate 1 (none) ∈ tbl := in4 232 rfl rfl
theorem ok_X3_negate : okY yX3_negate 0 := ⟨by decide, by decide, by decide⟩
theorem mi_X3_negate : Cond.instanceMethod yX3_negate ∈ tbl := (in4 230 rfl rfl)
theorem ms_X3_negate : Cond.selects RX3 yX3_negate yX3_negate ∈ tbl := (in4 231 rfl rfl)
theorem mc_X3_add : Cond.code yX3_add cX3_add 3 (none) ∈ tbl := in4 239 rfl rfl
theorem ok_X3_add : okY yX3_add 2 := ⟨by decide, by decide, by decide⟩
theorem mi_X3_add : Cond.instanceMethod yX3_add ∈ tbl := (in4 237 rfl rfl)
theorem ms_X3_add : Cond.selects RX3 yX3_add yX3_add ∈ tbl := (in4 238 rfl rfl)
theorem mc_X3_multiply : Cond.code yX3_multiply cX3_multiply 6 (none) ∈ tbl := in4 227 rfl rfl
theorem ok_X3_multiply : okY yX3_multiply 3 := ⟨by decide, by decide, by decide⟩
theorem mi_X3_multiply : Cond.instanceMethod yX3_multiply ∈ tbl := (in4 225 rfl rfl)
theorem ms_X3_multiply : Cond.selects RX3 yX3_multiply yX3_multiply ∈ tbl := (in4 226 rfl rfl)
theorem mc_X3_against : Cond.code yX3_against cX3_against 2 (some .int) ∈ tbl := in5 7 rfl rfl
theorem ok_X3_against : okY yX3_against 1 := ⟨by decide, by decide, by decide⟩
theorem mi_X3_against : Cond.instanceMethod yX3_against ∈ tbl := (in5 5 rfl rfl)
theorem ms_X3_against : Cond.selects RX3 yX3_against yX3_against ∈ tbl := (in5 6 rfl rfl)
theorem mc_X4_init : Cond.code yX4_init cX4_init 2 (none) ∈ tbl := in1 152 rfl rfl
theorem ok_X4_init : okY yX4_init 1 := ⟨by decide, by decide, by decide⟩
theorem mi_X4_init : Cond.instanceMethod yX4_init ∈ tbl := (in1 151 rfl rfl)
theorem mc_X4_begin : Cond.code yX4_begin cX4_begin 3 (none) ∈ tbl := in2 115 rfl rfl
theorem ok_X4_begin : okY yX4_begin 2 := ⟨by decide, by decide, by decide⟩
theorem mi_X4_begin : Cond.instanceMethod yX4_begin ∈ tbl := (in2 113 rfl rfl)
theorem ms_X4_begin : Cond.selects RX4 yX4_begin yX4_begin ∈ tbl := (in2 114 rfl rfl)
theorem mc_X4_goesOn : Cond.code yX4_goesOn cX4_goesOn 1 (some .boolean) ∈ tbl := in2 170 rfl rfl
theorem ok_X4_goesOn : okY yX4_goesOn 0 := ⟨by decide, by decide, by decide⟩
theorem mi_X4_goesOn : Cond.instanceMethod yX4_goesOn ∈ tbl := (in2 168 rfl rfl)
theorem ms_X4_goesOn : Cond.selects RX4 yX4_goesOn yX4_goesOn ∈ tbl := (in2 169 rfl rfl)
theorem mc_X4_isAtRule : Cond.code yX4_isAtRule cX4_isAtRule 1 (some .boolean) ∈ tbl := in2 174 rfl rfl
theorem ok_X4_isAtRule : okY yX4_isAtRule 0 := ⟨by decide, by decide, by decide⟩
theorem mi_X4_isAtRule : Cond.instanceMethod yX4_isAtRule ∈ tbl := (in2 172 rfl rfl)
theorem ms_X4_isAtRule : Cond.selects RX4 yX4_isAtRule yX4_isAtRule ∈ tbl := (in2 173 rfl rfl)
theorem mc_X4_tell : Cond.code yX4_tell cX4_tell 1 (none) ∈ tbl := in3 126 rfl rfl
theorem ok_X4_tell : okY yX4_tell 0 := ⟨by decide, by decide, by decide⟩
theorem mi_X4_tell : Cond.instanceMethod yX4_tell ∈ tbl := (in3 124 rfl rfl)
theorem ms_X4_tell : Cond.selects RX4 yX4_tell yX4_tell ∈ tbl := (in3 125 rfl rfl)
theorem mc_X4_tellRule : Cond.code yX4_tellRule cX4_tellRule 6 (none) ∈ tbl := in2 178 rfl rfl
theorem ok_X4_tellRule : okY yX4_tellRule 0 := ⟨by decide, by decide, by decide⟩
theorem mi_X4_tellRule : Cond.instanceMethod yX4_tellRule ∈ tbl := (in2 176 rfl rfl)
theorem ms_X4_tellRule : Cond.selects RX4 yX4_tellRule yX4_tellRule ∈ tbl := (in2 177 rfl rfl)
theorem mc_X4_finish : Cond.code yX4_finish cX4_finish 2 (some .int) ∈ tbl := in3 154 rfl rfl
theorem ok_X4_finish : okY yX4_finish 0 := ⟨by decide, by decide, by decide⟩
theorem mi_X4_finish : Cond.instanceMethod yX4_finish ∈ tbl := (in3 152 rfl rfl)
theorem ms_X4_finish : Cond.selects RX4 yX4_finish yX4_finish ∈ tbl := (in3 153 rfl rfl)
theorem mc_X4_placeOfFault : Cond.code yX4_placeOfFault cX4_placeOfFault 1 (some .int) ∈ tbl := in3 194 rfl rfl
theorem ok_X4_placeOfFault : okY yX4_placeOfFault 0 := ⟨by decide, by decide, by decide⟩
theorem mi_X4_placeOfFault : Cond.instanceMethod yX4_placeOfFault ∈ tbl := (in3 192 rfl rfl)
theorem ms_X4_placeOfFault : Cond.selects RX4 yX4_placeOfFault yX4_placeOfFault ∈ tbl := (in3 193 rfl rfl)
theorem mc_X4_lookAt : Cond.code yX4_lookAt cX4_lookAt 3 (none) ∈ tbl := in2 166 rfl rfl
theorem ok_X4_lookAt : okY yX4_lookAt 1 := ⟨by decide, by decide, by decide⟩
theorem mi_X4_lookAt : Cond.instanceMethod yX4_lookAt ∈ tbl := (in2 165 rfl rfl)
theorem ms_X4_lookAt : Cond.selects RX4 yX4_lookAt yX4_lookAt ∈ tbl := pr1 (q := (yX4_lookAt, 16)) 6 rfl
theorem mc_X4_stopAt : Cond.code yX4_stopAt cX4_stopAt 2 (none) ∈ tbl := in2 186 rfl rfl
theorem ok_X4_stopAt : okY yX4_stopAt 1 := ⟨by decide, by decide, by decide⟩
theorem mi_X4_stopAt : Cond.instanceMethod yX4_stopAt ∈ tbl := (in2 185 rfl rfl)
theorem ms_X4_stopAt : Cond.selects RX4 yX4_stopAt yX4_stopAt ∈ tbl := pr1 (q := (yX4_stopAt, 16)) 8 rfl
theorem mc_X4_note : Cond.code yX4_note cX4_note 3 (none) ∈ tbl := in2 202 rfl rfl
theorem ok_X4_note : okY yX4_note 2 := ⟨by decide, by decide, by decide⟩
theorem mi_X4_note : Cond.instanceMethod yX4_note ∈ tbl := (in2 201 rfl rfl)
theorem ms_X4_note : Cond.selects RX4 yX4_note yX4_note ∈ tbl := pr1 (q := (yX4_note, 16)) 10 rfl
theorem mc_X4_expect : Cond.code yX4_expect cX4_expect 2 (some .boolean) ∈ tbl := in2 182 rfl rfl
theorem ok_X4_expect : okY yX4_expect 1 := ⟨by decide, by decide, by decide⟩
theorem mi_X4_expect : Cond.instanceMethod yX4_expect ∈ tbl := (in2 181 rfl rfl)
theorem ms_X4_expect : Cond.selects RX4 yX4_expect yX4_expect ∈ tbl := pr1 (q := (yX4_expect, 16)) 7 rfl
theorem mc_X4_skip : Cond.code yX4_skip cX4_skip 2 (some .boolean) ∈ tbl := in3 72 rfl rfl
theorem ok_X4_skip : okY yX4_skip 1 := ⟨by decide, by decide, by decide⟩
theorem mi_X4_skip : Cond.instanceMethod yX4_skip ∈ tbl := (in3 71 rfl rfl)
theorem ms_X4_skip : Cond.selects RX4 yX4_skip yX4_skip ∈ tbl := pr1 (q := (yX4_skip, 16)) 14 rfl
theorem mc_X4_integer : Cond.code yX4_integer cX4_integer 5 (some .int) ∈ tbl := in3 81 rfl rfl
theorem ok_X4_integer : okY yX4_integer 2 := ⟨by decide, by decide, by decide⟩
theorem mi_X4_integer : Cond.instanceMethod yX4_integer ∈ tbl := (in3 80 rfl rfl)
theorem ms_X4_integer : Cond.selects RX4 yX4_integer yX4_integer ∈ tbl := pr2 (q := (yX4_integer, 16)) 0 rfl
theorem mc_X4_tellName : Cond.code yX4_tellName cX4_tellName 5 (some .int) ∈ tbl := in2 190 rfl rfl
theorem ok_X4_tellName : okY yX4_tellName 1 := ⟨by decide, by decide, by decide⟩
theorem mi_X4_tellName : Cond.instanceMethod yX4_tellName ∈ tbl := (in2 189 rfl rfl)
theorem ms_X4_tellName : Cond.selects RX4 yX4_tellName yX4_tellName ∈ tbl := pr1 (q := (yX4_tellName, 16)) 9 rfl
theorem mc_X4_knownName : Cond.code yX4_knownName cX4_knownName 4 (some .int) ∈ tbl := in3 114 rfl rfl
theorem ok_X4_knownName : okY yX4_knownName 1 := ⟨by decide, by decide, by decide⟩
theorem mi_X4_knownName : Cond.instanceMethod yX4_knownName ∈ tbl := (in3 113 rfl rfl)
theorem ms_X4_knownName : Cond.selects RX4 yX4_knownName yX4_knownName ∈ tbl := pr2 (q := (yX4_knownName, 16)) 5 rfl
theorem mc_X4_tellOne : Cond.code yX4_tellOne cX4_tellOne 3 (none) ∈ tbl := in3 130 rfl rfl
theorem ok_X4_tellOne : okY yX4_tellOne 2 := ⟨by decide, by decide, by decide⟩
theorem mi_X4_tellOne : Cond.instanceMethod yX4_tellOne ∈ tbl := (in3 129 rfl rfl)
theorem ms_X4_tellOne : Cond.selects RX4 yX4_tellOne yX4_tellOne ∈ tbl := pr2 (q := (yX4_tellOne, 16)) 7 rfl
theorem mc_X4_tellWord : Cond.code yX4_tellWord cX4_tellWord 3 (none) ∈ tbl := in3 134 rfl rfl
theorem ok_X4_tellWord : okY yX4_tellWord 0 := ⟨by decide, by decide, by decide⟩
theorem mi_X4_tellWord : Cond.instanceMethod yX4_tellWord ∈ tbl := (in3 133 rfl rfl)
theorem ms_X4_tellWord : Cond.selects RX4 yX4_tellWord yX4_tellWord ∈ tbl := pr2 (q := (yX4_tellWord, 16)) 8 rfl
theorem mc_X4_tellLaw : Cond.code yX4_tellLaw cX4_tellLaw 5 (none) ∈ tbl := in3 142 rfl rfl
theorem ok_X4_tellLaw : okY yX4_tellLaw 0 := ⟨by decide, by decide, by decide⟩
theorem mi_X4_tellLaw : Cond.instanceMethod yX4_tellLaw ∈ tbl := (in3 141 rfl rfl)
theorem ms_X4_tellLaw : Cond.selects RX4 yX4_tellLaw yX4_tellLaw ∈ tbl := pr2 (q := (yX4_tellLaw, 16)) 9 rfl
theorem mc_X4_tellOver : Cond.code yX4_tellOver cX4_tellOver 2 (none) ∈ tbl := in3 150 rfl rfl
theorem ok_X4_tellOver : okY yX4_tellOver 0 := ⟨by decide, by decide, by decide⟩
theorem mi_X4_tellOver : Cond.instanceMethod yX4_tellOver ∈ tbl := (in3 149 rfl rfl)
theorem ms_X4_tellOver : Cond.selects RX4 yX4_tellOver yX4_tellOver ∈ tbl := pr2 (q := (yX4_tellOver, 16)) 10 rfl
theorem mc_X4_resolveOver : Cond.code yX4_resolveOver cX4_resolveOver 4 (none) ∈ tbl := in3 158 rfl rfl
theorem ok_X4_resolveOver : okY yX4_resolveOver 1 := ⟨by decide, by decide, by decide⟩
theorem mi_X4_resolveOver : Cond.instanceMethod yX4_resolveOver ∈ tbl := (in3 157 rfl rfl)
theorem ms_X4_resolveOver : Cond.selects RX4 yX4_resolveOver yX4_resolveOver ∈ tbl := pr2 (q := (yX4_resolveOver, 16)) 11 rfl
theorem mc_X4_noteRule : Cond.code yX4_noteRule cX4_noteRule 3 (none) ∈ tbl := in3 170 rfl rfl
theorem ok_X4_noteRule : okY yX4_noteRule 2 := ⟨by decide, by decide, by decide⟩
theorem mi_X4_noteRule : Cond.instanceMethod yX4_noteRule ∈ tbl := (in3 169 rfl rfl)
theorem ms_X4_noteRule : Cond.selects RX4 yX4_noteRule yX4_noteRule ∈ tbl := pr2 (q := (yX4_noteRule, 16)) 12 rfl
theorem mc_X4_startCondition : Cond.code yX4_startCondition cX4_startCondition 3 (some (.object "StatuteBench$Condition")) ∈ tbl := in3 56 rfl rfl
theorem ok_X4_startCondition : okY yX4_startCondition 1 := ⟨by decide, by decide, by decide⟩
theorem mi_X4_startCondition : Cond.instanceMethod yX4_startCondition ∈ tbl := (in3 55 rfl rfl)
theorem ms_X4_startCondition : Cond.selects RX4 yX4_startCondition yX4_startCondition ∈ tbl := pr1 (q := (yX4_startCondition, 16)) 11 rfl
theorem mc_X4_literal : Cond.code yX4_literal cX4_literal 5 (none) ∈ tbl := in3 110 rfl rfl
theorem ok_X4_literal : okY yX4_literal 1 := ⟨by decide, by decide, by decide⟩
theorem mi_X4_literal : Cond.instanceMethod yX4_literal ∈ tbl := (in3 109 rfl rfl)
theorem ms_X4_literal : Cond.selects RX4 yX4_literal yX4_literal ∈ tbl := pr2 (q := (yX4_literal, 16)) 4 rfl
theorem mc_X4_likeness : Cond.code yX4_likeness cX4_likeness 2 (none) ∈ tbl := in3 106 rfl rfl
theorem ok_X4_likeness : okY yX4_likeness 1 := ⟨by decide, by decide, by decide⟩
theorem mi_X4_likeness : Cond.instanceMethod yX4_likeness ∈ tbl := (in3 105 rfl rfl)
theorem ms_X4_likeness : Cond.selects RX4 yX4_likeness yX4_likeness ∈ tbl := pr2 (q := (yX4_likeness, 16)) 3 rfl
theorem mc_X4_comparison : Cond.code yX4_comparison cX4_comparison 2 (none) ∈ tbl := in3 64 rfl rfl
theorem ok_X4_comparison : okY yX4_comparison 1 := ⟨by decide, by decide, by decide⟩
theorem mi_X4_comparison : Cond.instanceMethod yX4_comparison ∈ tbl := (in3 63 rfl rfl)
theorem ms_X4_comparison : Cond.selects RX4 yX4_comparison yX4_comparison ∈ tbl := pr1 (q := (yX4_comparison, 16)) 12 rfl
theorem mc_X4_takeHead : Cond.code yX4_takeHead cX4_takeHead 2 (none) ∈ tbl := in3 122 rfl rfl
theorem ok_X4_takeHead : okY yX4_takeHead 1 := ⟨by decide, by decide, by decide⟩
theorem mi_X4_takeHead : Cond.instanceMethod yX4_takeHead ∈ tbl := (in3 121 rfl rfl)
theorem ms_X4_takeHead : Cond.selects RX4 yX4_takeHead yX4_takeHead ∈ tbl := pr2 (q := (yX4_takeHead, 16)) 6 rfl
theorem mc_X4_term : Cond.code yX4_term cX4_term 3 (some .int) ∈ tbl := in3 97 rfl rfl
theorem ok_X4_term : okY yX4_term 0 := ⟨by decide, by decide, by decide⟩
theorem mi_X4_term : Cond.instanceMethod yX4_term ∈ tbl := (in3 96 rfl rfl)
theorem ms_X4_term : Cond.selects RX4 yX4_term yX4_term ∈ tbl := pr2 (q := (yX4_term, 16)) 1 rfl
theorem mc_X4_variableNumber : Cond.code yX4_variableNumber cX4_variableNumber 3 (some .int) ∈ tbl := in3 101 rfl rfl
theorem ok_X4_variableNumber : okY yX4_variableNumber 1 := ⟨by decide, by decide, by decide⟩
theorem mi_X4_variableNumber : Cond.instanceMethod yX4_variableNumber ∈ tbl := (in3 100 rfl rfl)
theorem ms_X4_variableNumber : Cond.selects RX4 yX4_variableNumber yX4_variableNumber ∈ tbl := pr2 (q := (yX4_variableNumber, 16)) 2 rfl
theorem mc_X4_formula : Cond.code yX4_formula cX4_formula 6 (none) ∈ tbl := in3 68 rfl rfl
theorem ok_X4_formula : okY yX4_formula 1 := ⟨by decide, by decide, by decide⟩
theorem mi_X4_formula : Cond.instanceMethod yX4_formula ∈ tbl := (in3 67 rfl rfl)
theorem ms_X4_formula : Cond.selects RX4 yX4_formula yX4_formula ∈ tbl := pr1 (q := (yX4_formula, 16)) 13 rfl
theorem mc_X4_unit : Cond.code yX4_unit cX4_unit 3 (none) ∈ tbl := in3 76 rfl rfl
theorem ok_X4_unit : okY yX4_unit 1 := ⟨by decide, by decide, by decide⟩
theorem mi_X4_unit : Cond.instanceMethod yX4_unit ∈ tbl := (in3 75 rfl rfl)
theorem ms_X4_unit : Cond.selects RX4 yX4_unit yX4_unit ∈ tbl := pr1 (q := (yX4_unit, 16)) 15 rfl
theorem mc_X5_init : Cond.code yX5_init cX5_init 2 (none) ∈ tbl := in4 15 rfl rfl
theorem ok_X5_init : okY yX5_init 1 := ⟨by decide, by decide, by decide⟩
theorem mi_X5_init : Cond.instanceMethod yX5_init ∈ tbl := (in4 14 rfl rfl)
theorem mc_X5_begin : Cond.code yX5_begin cX5_begin 2 (none) ∈ tbl := in4 140 rfl rfl
theorem ok_X5_begin : okY yX5_begin 0 := ⟨by decide, by decide, by decide⟩
theorem mi_X5_begin : Cond.instanceMethod yX5_begin ∈ tbl := (in4 138 rfl rfl)
theorem ms_X5_begin : Cond.selects RX5 yX5_begin yX5_begin ∈ tbl := (in4 139 rfl rfl)
theorem mc_X5_hear : Cond.code yX5_hear cX5_hear 4 (none) ∈ tbl := in4 161 rfl rfl
theorem ok_X5_hear : okY yX5_hear 3 := ⟨by decide, by decide, by decide⟩
theorem mi_X5_hear : Cond.instanceMethod yX5_hear ∈ tbl := (in4 159 rfl rfl)
theorem ms_X5_hear : Cond.selects RX5 yX5_hear yX5_hear ∈ tbl := (in4 160 rfl rfl)
theorem mc_X5_findFacts : Cond.code yX5_findFacts cX5_findFacts 2 (none) ∈ tbl := in4 169 rfl rfl
theorem ok_X5_findFacts : okY yX5_findFacts 0 := ⟨by decide, by decide, by decide⟩
theorem mi_X5_findFacts : Cond.instanceMethod yX5_findFacts ∈ tbl := (in4 167 rfl rfl)
theorem ms_X5_findFacts : Cond.selects RX5 yX5_findFacts yX5_findFacts ∈ tbl := (in4 168 rfl rfl)
theorem mc_X5_gather : Cond.code yX5_gather cX5_gather 7 (none) ∈ tbl := in4 173 rfl rfl
theorem ok_X5_gather : okY yX5_gather 3 := ⟨by decide, by decide, by decide⟩
theorem mi_X5_gather : Cond.instanceMethod yX5_gather ∈ tbl := (in4 171 rfl rfl)
theorem ms_X5_gather : Cond.selects RX5 yX5_gather yX5_gather ∈ tbl := (in4 172 rfl rfl)
theorem mc_X5_settleInstances : Cond.code yX5_settleInstances cX5_settleInstances 4 (none) ∈ tbl := in5 30 rfl rfl
theorem ok_X5_settleInstances : okY yX5_settleInstances 0 := ⟨by decide, by decide, by decide⟩
theorem mi_X5_settleInstances : Cond.instanceMethod yX5_settleInstances ∈ tbl := (in5 28 rfl rfl)
theorem ms_X5_settleInstances : Cond.selects RX5 yX5_settleInstances yX5_settleInstances ∈ tbl := (in5 29 rfl rfl)
theorem mc_X5_settleLiterals : Cond.code yX5_settleLiterals cX5_settleLiterals 3 (some .boolean) ∈ tbl := in5 42 rfl rfl
theorem ok_X5_settleLiterals : okY yX5_settleLiterals 0 := ⟨by decide, by decide, by decide⟩
theorem mi_X5_settleLiterals : Cond.instanceMethod yX5_settleLiterals ∈ tbl := (in5 40 rfl rfl)
theorem ms_X5_settleLiterals : Cond.selects RX5 yX5_settleLiterals yX5_settleLiterals ∈ tbl := (in5 41 rfl rfl)
theorem mc_X5_explain : Cond.code yX5_explain cX5_explain 2 (none) ∈ tbl := in5 62 rfl rfl
theorem ok_X5_explain : okY yX5_explain 0 := ⟨by decide, by decide, by decide⟩
theorem mi_X5_explain : Cond.instanceMethod yX5_explain ∈ tbl := (in5 60 rfl rfl)
theorem ms_X5_explain : Cond.selects RX5 yX5_explain yX5_explain ∈ tbl := (in5 61 rfl rfl)
theorem mc_X5_reckon : Cond.code yX5_reckon cX5_reckon 4 (none) ∈ tbl := in5 70 rfl rfl
theorem ok_X5_reckon : okY yX5_reckon 1 := ⟨by decide, by decide, by decide⟩
theorem mi_X5_reckon : Cond.instanceMethod yX5_reckon ∈ tbl := (in5 68 rfl rfl)
theorem ms_X5_reckon : Cond.selects RX5 yX5_reckon yX5_reckon ∈ tbl := (in5 69 rfl rfl)
theorem mc_X5_find : Cond.code yX5_find cX5_find 5 (some .int) ∈ tbl := in5 94 rfl rfl
theorem ok_X5_find : okY yX5_find 4 := ⟨by decide, by decide, by decide⟩
theorem mi_X5_find : Cond.instanceMethod yX5_find ∈ tbl := (in5 92 rfl rfl)
theorem ms_X5_find : Cond.selects RX5 yX5_find yX5_find ∈ tbl := (in5 93 rfl rfl)
theorem mc_X5_reason : Cond.code yX5_reason cX5_reason 5 (some .int) ∈ tbl := in5 103 rfl rfl
theorem ok_X5_reason : okY yX5_reason 2 := ⟨by decide, by decide, by decide⟩
theorem mi_X5_reason : Cond.instanceMethod yX5_reason ∈ tbl := (in5 101 rfl rfl)
theorem ms_X5_reason : Cond.selects RX5 yX5_reason yX5_reason ∈ tbl := (in5 102 rfl rfl)
theorem mc_X5_amount : Cond.code yX5_amount cX5_amount 5 (some .long) ∈ tbl := in5 116 rfl rfl
theorem ok_X5_amount : okY yX5_amount 3 := ⟨by decide, by decide, by decide⟩
theorem mi_X5_amount : Cond.instanceMethod yX5_amount ∈ tbl := (in5 114 rfl rfl)
theorem ms_X5_amount : Cond.selects RX5 yX5_amount yX5_amount ∈ tbl := (in5 115 rfl rfl)
theorem mc_X5_writeLiteral : Cond.code yX5_writeLiteral cX5_writeLiteral 4 (none) ∈ tbl := in5 125 rfl rfl
theorem ok_X5_writeLiteral : okY yX5_writeLiteral 2 := ⟨by decide, by decide, by decide⟩
theorem mi_X5_writeLiteral : Cond.instanceMethod yX5_writeLiteral ∈ tbl := (in5 123 rfl rfl)
theorem ms_X5_writeLiteral : Cond.selects RX5 yX5_writeLiteral yX5_writeLiteral ∈ tbl := (in5 124 rfl rfl)
theorem mc_X5_writeSum : Cond.code yX5_writeSum cX5_writeSum 5 (none) ∈ tbl := in5 147 rfl rfl
theorem ok_X5_writeSum : okY yX5_writeSum 2 := ⟨by decide, by decide, by decide⟩
theorem mi_X5_writeSum : Cond.instanceMethod yX5_writeSum ∈ tbl := (in5 145 rfl rfl)
theorem ms_X5_writeSum : Cond.selects RX5 yX5_writeSum yX5_writeSum ∈ tbl := (in5 146 rfl rfl)
theorem mc_X5_wordOf : Cond.code yX5_wordOf cX5_wordOf 1 (some .int) ∈ tbl := in4 150 rfl rfl
theorem ok_X5_wordOf : okY yX5_wordOf 1 := ⟨by decide, by decide, by decide⟩
theorem mt_X5_wordOf : Cond.static yX5_wordOf ∈ tbl := (in4 149 rfl rfl)
theorem mc_X5_firstOf : Cond.code yX5_firstOf cX5_firstOf 1 (some .int) ∈ tbl := in4 154 rfl rfl
theorem ok_X5_firstOf : okY yX5_firstOf 1 := ⟨by decide, by decide, by decide⟩
theorem mt_X5_firstOf : Cond.static yX5_firstOf ∈ tbl := (in4 153 rfl rfl)
theorem mc_X5_secondOf : Cond.code yX5_secondOf cX5_secondOf 1 (some .int) ∈ tbl := in4 157 rfl rfl
theorem ok_X5_secondOf : okY yX5_secondOf 1 := ⟨by decide, by decide, by decide⟩
theorem mt_X5_secondOf : Cond.static yX5_secondOf ∈ tbl := (in4 156 rfl rfl)
theorem mc_X5_isThere : Cond.code yX5_isThere cX5_isThere 3 (some .boolean) ∈ tbl := in4 147 rfl rfl
theorem ok_X5_isThere : okY yX5_isThere 1 := ⟨by decide, by decide, by decide⟩
theorem mi_X5_isThere : Cond.instanceMethod yX5_isThere ∈ tbl := (in4 146 rfl rfl)
theorem ms_X5_isThere : Cond.selects RX5 yX5_isThere yX5_isThere ∈ tbl := pr2 (q := (yX5_isThere, 19)) 13 rfl
theorem mc_X5_bettersOf : Cond.code yX5_bettersOf cX5_bettersOf 4 (some .int) ∈ tbl := in4 186 rfl rfl
theorem ok_X5_bettersOf : okY yX5_bettersOf 1 := ⟨by decide, by decide, by decide⟩
theorem mi_X5_bettersOf : Cond.instanceMethod yX5_bettersOf ∈ tbl := (in4 185 rfl rfl)
theorem ms_X5_bettersOf : Cond.selects RX5 yX5_bettersOf yX5_bettersOf ∈ tbl := pr2 (q := (yX5_bettersOf, 19)) 14 rfl
theorem mc_X5_plainConditionsHold : Cond.code yX5_plainConditionsHold cX5_plainConditionsHold 4 (some .boolean) ∈ tbl := in4 199 rfl rfl
theorem ok_X5_plainConditionsHold : okY yX5_plainConditionsHold 1 := ⟨by decide, by decide, by decide⟩
theorem mi_X5_plainConditionsHold : Cond.instanceMethod yX5_plainConditionsHold ∈ tbl := (in4 198 rfl rfl)
theorem ms_X5_plainConditionsHold : Cond.selects RX5 yX5_plainConditionsHold yX5_plainConditionsHold ∈ tbl := pr2 (q := (yX5_plainConditionsHold, 19)) 15 rfl
theorem mc_X5_headOf : Cond.code yX5_headOf cX5_headOf 2 (some .int) ∈ tbl := in5 14 rfl rfl
theorem ok_X5_headOf : okY yX5_headOf 1 := ⟨by decide, by decide, by decide⟩
theorem mi_X5_headOf : Cond.instanceMethod yX5_headOf ∈ tbl := (in5 13 rfl rfl)
theorem ms_X5_headOf : Cond.selects RX5 yX5_headOf yX5_headOf ∈ tbl := pr3 (q := (yX5_headOf, 19)) 2 rfl
theorem mc_X5_list : Cond.code yX5_list cX5_list 3 (none) ∈ tbl := in5 24 rfl rfl
theorem ok_X5_list : okY yX5_list 2 := ⟨by decide, by decide, by decide⟩
theorem mi_X5_list : Cond.instanceMethod yX5_list ∈ tbl := (in5 23 rfl rfl)
theorem ms_X5_list : Cond.selects RX5 yX5_list yX5_list ∈ tbl := pr3 (q := (yX5_list, 19)) 3 rfl
theorem mc_X5_bound : Cond.code yX5_bound cX5_bound 3 (some (.object "StatuteBench$Rule")) ∈ tbl := in5 38 rfl rfl
theorem ok_X5_bound : okY yX5_bound 1 := ⟨by decide, by decide, by decide⟩
theorem mi_X5_bound : Cond.instanceMethod yX5_bound ∈ tbl := (in5 37 rfl rfl)
theorem ms_X5_bound : Cond.selects RX5 yX5_bound yX5_bound ∈ tbl := pr3 (q := (yX5_bound, 19)) 5 rfl
theorem mc_X5_stateOf : Cond.code yX5_stateOf cX5_stateOf 8 (some .int) ∈ tbl := in5 34 rfl rfl
theorem ok_X5_stateOf : okY yX5_stateOf 1 := ⟨by decide, by decide, by decide⟩
theorem mi_X5_stateOf : Cond.instanceMethod yX5_stateOf ∈ tbl := (in5 33 rfl rfl)
theorem ms_X5_stateOf : Cond.selects RX5 yX5_stateOf yX5_stateOf ∈ tbl := pr3 (q := (yX5_stateOf, 19)) 4 rfl
theorem mc_X5_markOf : Cond.code yX5_markOf cX5_markOf 2 (some .int) ∈ tbl := in5 46 rfl rfl
theorem ok_X5_markOf : okY yX5_markOf 1 := ⟨by decide, by decide, by decide⟩
theorem mi_X5_markOf : Cond.instanceMethod yX5_markOf ∈ tbl := (in5 45 rfl rfl)
theorem ms_X5_markOf : Cond.selects RX5 yX5_markOf yX5_markOf ∈ tbl := pr3 (q := (yX5_markOf, 19)) 6 rfl
theorem mc_X5_isProved : Cond.code yX5_isProved cX5_isProved 5 (some .boolean) ∈ tbl := in5 50 rfl rfl
theorem ok_X5_isProved : okY yX5_isProved 1 := ⟨by decide, by decide, by decide⟩
theorem mi_X5_isProved : Cond.instanceMethod yX5_isProved ∈ tbl := (in5 49 rfl rfl)
theorem ms_X5_isProved : Cond.selects RX5 yX5_isProved yX5_isProved ∈ tbl := pr3 (q := (yX5_isProved, 19)) 7 rfl
theorem mc_X5_isRefuted : Cond.code yX5_isRefuted cX5_isRefuted 4 (some .boolean) ∈ tbl := in5 54 rfl rfl
theorem ok_X5_isRefuted : okY yX5_isRefuted 1 := ⟨by decide, by decide, by decide⟩
theorem mi_X5_isRefuted : Cond.instanceMethod yX5_isRefuted ∈ tbl := (in5 53 rfl rfl)
theorem ms_X5_isRefuted : Cond.selects RX5 yX5_isRefuted yX5_isRefuted ∈ tbl := pr3 (q := (yX5_isRefuted, 19)) 8 rfl
theorem mc_X5_prevails : Cond.code yX5_prevails cX5_prevails 3 (some .boolean) ∈ tbl := in5 58 rfl rfl
theorem ok_X5_prevails : okY yX5_prevails 2 := ⟨by decide, by decide, by decide⟩
theorem mi_X5_prevails : Cond.instanceMethod yX5_prevails ∈ tbl := (in5 57 rfl rfl)
theorem ms_X5_prevails : Cond.selects RX5 yX5_prevails yX5_prevails ∈ tbl := pr3 (q := (yX5_prevails, 19)) 9 rfl
theorem mc_X5_giveReason : Cond.code yX5_giveReason cX5_giveReason 6 (none) ∈ tbl := in5 66 rfl rfl
theorem ok_X5_giveReason : okY yX5_giveReason 2 := ⟨by decide, by decide, by decide⟩
theorem mi_X5_giveReason : Cond.instanceMethod yX5_giveReason ∈ tbl := (in5 65 rfl rfl)
theorem ms_X5_giveReason : Cond.selects RX5 yX5_giveReason yX5_giveReason ∈ tbl := pr3 (q := (yX5_giveReason, 19)) 10 rfl
theorem mc_X5_kindOfReason : Cond.code yX5_kindOfReason cX5_kindOfReason 2 (some .int) ∈ tbl := in5 107 rfl rfl
theorem ok_X5_kindOfReason : okY yX5_kindOfReason 1 := ⟨by decide, by decide, by decide⟩
theorem mi_X5_kindOfReason : Cond.instanceMethod yX5_kindOfReason ∈ tbl := (in5 106 rfl rfl)
theorem ms_X5_kindOfReason : Cond.selects RX5 yX5_kindOfReason yX5_kindOfReason ∈ tbl := pr3 (q := (yX5_kindOfReason, 19)) 12 rfl
theorem mc_X6_init : Cond.code yX6_init cX6_init 3 (none) ∈ tbl := in4 21 rfl rfl
theorem ok_X6_init : okY yX6_init 1 := ⟨by decide, by decide, by decide⟩
theorem mi_X6_init : Cond.instanceMethod yX6_init ∈ tbl := (in4 20 rfl rfl)
theorem mc_X6_bind : Cond.code yX6_bind cX6_bind 6 (none) ∈ tbl := in4 194 rfl rfl
theorem ok_X6_bind : okY yX6_bind 3 := ⟨by decide, by decide, by decide⟩
theorem mi_X6_bind : Cond.instanceMethod yX6_bind ∈ tbl := (in4 192 rfl rfl)
theorem ms_X6_bind : Cond.selects RX6 yX6_bind yX6_bind ∈ tbl := (in4 193 rfl rfl)
theorem mc_X6_personOf : Cond.code yX6_personOf cX6_personOf 2 (some .int) ∈ tbl := in4 207 rfl rfl
theorem ok_X6_personOf : okY yX6_personOf 1 := ⟨by decide, by decide, by decide⟩
theorem mi_X6_personOf : Cond.instanceMethod yX6_personOf ∈ tbl := (in4 205 rfl rfl)
theorem ms_X6_personOf : Cond.selects RX6 yX6_personOf yX6_personOf ∈ tbl := (in4 206 rfl rfl)
theorem mc_X6_literalOf : Cond.code yX6_literalOf cX6_literalOf 2 (some .int) ∈ tbl := in5 19 rfl rfl
theorem ok_X6_literalOf : okY yX6_literalOf 1 := ⟨by decide, by decide, by decide⟩
theorem mi_X6_literalOf : Cond.instanceMethod yX6_literalOf ∈ tbl := (in5 17 rfl rfl)
theorem ms_X6_literalOf : Cond.selects RX6 yX6_literalOf yX6_literalOf ∈ tbl := (in5 18 rfl rfl)
theorem mc_X6_holds : Cond.code yX6_holds cX6_holds 4 (some .boolean) ∈ tbl := in4 203 rfl rfl
theorem ok_X6_holds : okY yX6_holds 1 := ⟨by decide, by decide, by decide⟩
theorem mi_X6_holds : Cond.instanceMethod yX6_holds ∈ tbl := (in4 201 rfl rfl)
theorem ms_X6_holds : Cond.selects RX6 yX6_holds yX6_holds ∈ tbl := (in4 202 rfl rfl)
theorem mc_X6_work : Cond.code yX6_work cX6_work 9 (some (.object "StatuteBench$Fraction")) ∈ tbl := in4 211 rfl rfl
theorem ok_X6_work : okY yX6_work 2 := ⟨by decide, by decide, by decide⟩
theorem mi_X6_work : Cond.instanceMethod yX6_work ∈ tbl := (in4 210 rfl rfl)
theorem ms_X6_work : Cond.selects RX6 yX6_work yX6_work ∈ tbl := pr3 (q := (yX6_work, 10)) 0 rfl
theorem mc_X6_combine : Cond.code yX6_combine cX6_combine 3 (none) ∈ tbl := in4 235 rfl rfl
theorem ok_X6_combine : okY yX6_combine 3 := ⟨by decide, by decide, by decide⟩
theorem mt_X6_combine : Cond.static yX6_combine ∈ tbl := (in4 234 rfl rfl)
theorem mc_X6_numberOf : Cond.code yX6_numberOf cX6_numberOf 3 (some .int) ∈ tbl := in4 217 rfl rfl
theorem ok_X6_numberOf : okY yX6_numberOf 1 := ⟨by decide, by decide, by decide⟩
theorem mi_X6_numberOf : Cond.instanceMethod yX6_numberOf ∈ tbl := (in4 216 rfl rfl)
theorem ms_X6_numberOf : Cond.selects RX6 yX6_numberOf yX6_numberOf ∈ tbl := pr3 (q := (yX6_numberOf, 10)) 1 rfl
theorem mc_X6_beginSum : Cond.code yX6_beginSum cX6_beginSum 1 (none) ∈ tbl := in5 74 rfl rfl
theorem ok_X6_beginSum : okY yX6_beginSum 0 := ⟨by decide, by decide, by decide⟩
theorem mi_X6_beginSum : Cond.instanceMethod yX6_beginSum ∈ tbl := (in5 72 rfl rfl)
theorem ms_X6_beginSum : Cond.selects RX6 yX6_beginSum yX6_beginSum ∈ tbl := (in5 73 rfl rfl)
theorem mc_X6_take : Cond.code yX6_take cX6_take 3 (none) ∈ tbl := in5 78 rfl rfl
theorem ok_X6_take : okY yX6_take 1 := ⟨by decide, by decide, by decide⟩
theorem mi_X6_take : Cond.instanceMethod yX6_take ∈ tbl := (in5 76 rfl rfl)
theorem ms_X6_take : Cond.selects RX6 yX6_take yX6_take ∈ tbl := (in5 77 rfl rfl)
theorem mc_X6_limit : Cond.code yX6_limit cX6_limit 5 (none) ∈ tbl := in5 82 rfl rfl
theorem ok_X6_limit : okY yX6_limit 4 := ⟨by decide, by decide, by decide⟩
theorem mi_X6_limit : Cond.instanceMethod yX6_limit ∈ tbl := (in5 81 rfl rfl)
theorem ms_X6_limit : Cond.selects RX6 yX6_limit yX6_limit ∈ tbl := pr3 (q := (yX6_limit, 10)) 11 rfl
theorem mc_X6_finishSum : Cond.code yX6_finishSum cX6_finishSum 1 (some (.object "StatuteBench$Fraction")) ∈ tbl := in5 86 rfl rfl
theorem ok_X6_finishSum : okY yX6_finishSum 0 := ⟨by decide, by decide, by decide⟩
theorem mi_X6_finishSum : Cond.instanceMethod yX6_finishSum ∈ tbl := (in5 84 rfl rfl)
theorem ms_X6_finishSum : Cond.selects RX6 yX6_finishSum yX6_finishSum ∈ tbl := (in5 85 rfl rfl)
theorem mc_X7_init : Cond.code yX7_init cX7_init 2 (none) ∈ tbl := in1 56 rfl rfl
theorem ok_X7_init : okY yX7_init 1 := ⟨by decide, by decide, by decide⟩
theorem mi_X7_init : Cond.instanceMethod yX7_init ∈ tbl := (in1 55 rfl rfl)
theorem mc_X7_isFull : Cond.code yX7_isFull cX7_isFull 1 (some .boolean) ∈ tbl := in2 194 rfl rfl
theorem ok_X7_isFull : okY yX7_isFull 0 := ⟨by decide, by decide, by decide⟩
theorem mi_X7_isFull : Cond.instanceMethod yX7_isFull ∈ tbl := (in2 192 rfl rfl)
theorem ms_X7_isFull : Cond.selects RX7 yX7_isFull yX7_isFull ∈ tbl := (in2 193 rfl rfl)
theorem mc_X7_find : Cond.code yX7_find cX7_find 4 (some .int) ∈ tbl := in2 198 rfl rfl
theorem ok_X7_find : okY yX7_find 1 := ⟨by decide, by decide, by decide⟩
theorem mi_X7_find : Cond.instanceMethod yX7_find ∈ tbl := (in2 196 rfl rfl)
theorem ms_X7_find : Cond.selects RX7 yX7_find yX7_find ∈ tbl := (in2 197 rfl rfl)
theorem mc_X7_add : Cond.code yX7_add cX7_add 3 (some .int) ∈ tbl := in2 206 rfl rfl
theorem ok_X7_add : okY yX7_add 1 := ⟨by decide, by decide, by decide⟩
theorem mi_X7_add : Cond.instanceMethod yX7_add ∈ tbl := (in2 204 rfl rfl)
theorem ms_X7_add : Cond.selects RX7 yX7_add yX7_add ∈ tbl := (in2 205 rfl rfl)
theorem mc_X7_nameAt : Cond.code yX7_nameAt cX7_nameAt 2 (some .long) ∈ tbl := in5 136 rfl rfl
theorem ok_X7_nameAt : okY yX7_nameAt 1 := ⟨by decide, by decide, by decide⟩
theorem mi_X7_nameAt : Cond.instanceMethod yX7_nameAt ∈ tbl := (in5 134 rfl rfl)
theorem ms_X7_nameAt : Cond.selects RX7 yX7_nameAt yX7_nameAt ∈ tbl := (in5 135 rfl rfl)
theorem mc_X8_init : Cond.code yX8_init cX8_init 1 (none) ∈ tbl := in2 215 rfl rfl
theorem ok_X8_init : okY yX8_init 0 := ⟨by decide, by decide, by decide⟩
theorem mi_X8_init : Cond.instanceMethod yX8_init ∈ tbl := (in2 214 rfl rfl)
theorem mc_X8_newCondition : Cond.code yX8_newCondition cX8_newCondition 1 (some (.object "StatuteBench$Condition")) ∈ tbl := in3 60 rfl rfl
theorem ok_X8_newCondition : okY yX8_newCondition 0 := ⟨by decide, by decide, by decide⟩
theorem mi_X8_newCondition : Cond.instanceMethod yX8_newCondition ∈ tbl := (in3 58 rfl rfl)
theorem ms_X8_newCondition : Cond.selects RX8 yX8_newCondition yX8_newCondition ∈ tbl := (in3 59 rfl rfl)
theorem mc_X9_init : Cond.code yX9_init cX9_init 6 (none) ∈ tbl := in3 219 rfl rfl
theorem ok_X9_init : okY yX9_init 5 := ⟨by decide, by decide, by decide⟩
theorem mi_X9_init : Cond.instanceMethod yX9_init ∈ tbl := (in3 218 rfl rfl)
theorem mc_X9_counts : Cond.code yX9_counts cX9_counts 3 (some .boolean) ∈ tbl := in4 165 rfl rfl
theorem ok_X9_counts : okY yX9_counts 2 := ⟨by decide, by decide, by decide⟩
theorem mi_X9_counts : Cond.instanceMethod yX9_counts ∈ tbl := (in4 163 rfl rfl)
theorem ms_X9_counts : Cond.selects RX9 yX9_counts yX9_counts ∈ tbl := (in4 164 rfl rfl)
theorem mc_X10_init : Cond.code yX10_init cX10_init 4 (none) ∈ tbl := in1 158 rfl rfl
theorem ok_X10_init : okY yX10_init 0 := ⟨by decide, by decide, by decide⟩
theorem mi_X10_init : Cond.instanceMethod yX10_init ∈ tbl := (in1 157 rfl rfl)
theorem mc_X10_scan : Cond.code yX10_scan cX10_scan 4 (none) ∈ tbl := in2 119 rfl rfl
theorem ok_X10_scan : okY yX10_scan 1 := ⟨by decide, by decide, by decide⟩
theorem mi_X10_scan : Cond.instanceMethod yX10_scan ∈ tbl := (in2 117 rfl rfl)
theorem ms_X10_scan : Cond.selects RX10 yX10_scan yX10_scan ∈ tbl := (in2 118 rfl rfl)
theorem mc_X10_startAt : Cond.code yX10_startAt cX10_startAt 2 (some .int) ∈ tbl := in3 166 rfl rfl
theorem ok_X10_startAt : okY yX10_startAt 1 := ⟨by decide, by decide, by decide⟩
theorem mi_X10_startAt : Cond.instanceMethod yX10_startAt ∈ tbl := (in3 164 rfl rfl)
theorem ms_X10_startAt : Cond.selects RX10 yX10_startAt yX10_startAt ∈ tbl := (in3 165 rfl rfl)
theorem mc_X10_valueAt : Cond.code yX10_valueAt cX10_valueAt 2 (some .long) ∈ tbl := in3 162 rfl rfl
theorem ok_X10_valueAt : okY yX10_valueAt 1 := ⟨by decide, by decide, by decide⟩
theorem mi_X10_valueAt : Cond.instanceMethod yX10_valueAt ∈ tbl := (in3 160 rfl rfl)
theorem ms_X10_valueAt : Cond.selects RX10 yX10_valueAt yX10_valueAt ∈ tbl := (in3 161 rfl rfl)
theorem mc_X10_makeRoom : Cond.code yX10_makeRoom cX10_makeRoom 2 (none) ∈ tbl := in2 124 rfl rfl
theorem ok_X10_makeRoom : okY yX10_makeRoom 1 := ⟨by decide, by decide, by decide⟩
theorem mi_X10_makeRoom : Cond.instanceMethod yX10_makeRoom ∈ tbl := (in2 123 rfl rfl)
theorem ms_X10_makeRoom : Cond.selects RX10 yX10_makeRoom yX10_makeRoom ∈ tbl := pr1 (q := (yX10_makeRoom, 7)) 0 rfl
theorem mc_X10_skipBlanks : Cond.code yX10_skipBlanks cX10_skipBlanks 1 (none) ∈ tbl := in2 128 rfl rfl
theorem ok_X10_skipBlanks : okY yX10_skipBlanks 0 := ⟨by decide, by decide, by decide⟩
theorem mi_X10_skipBlanks : Cond.instanceMethod yX10_skipBlanks ∈ tbl := (in2 127 rfl rfl)
theorem ms_X10_skipBlanks : Cond.selects RX10 yX10_skipBlanks yX10_skipBlanks ∈ tbl := pr1 (q := (yX10_skipBlanks, 7)) 1 rfl
theorem mc_X10_next : Cond.code yX10_next cX10_next 3 (some .int) ∈ tbl := in2 139 rfl rfl
theorem ok_X10_next : okY yX10_next 1 := ⟨by decide, by decide, by decide⟩
theorem mi_X10_next : Cond.instanceMethod yX10_next ∈ tbl := (in2 138 rfl rfl)
theorem ms_X10_next : Cond.selects RX10 yX10_next yX10_next ∈ tbl := pr1 (q := (yX10_next, 7)) 2 rfl
theorem mc_X10_nextName : Cond.code yX10_nextName cX10_nextName 6 (some .int) ∈ tbl := in2 146 rfl rfl
theorem ok_X10_nextName : okY yX10_nextName 1 := ⟨by decide, by decide, by decide⟩
theorem mi_X10_nextName : Cond.instanceMethod yX10_nextName ∈ tbl := (in2 145 rfl rfl)
theorem ms_X10_nextName : Cond.selects RX10 yX10_nextName yX10_nextName ∈ tbl := pr1 (q := (yX10_nextName, 7)) 3 rfl
theorem mc_X10_nextInteger : Cond.code yX10_nextInteger cX10_nextInteger 5 (some .int) ∈ tbl := in2 153 rfl rfl
theorem ok_X10_nextInteger : okY yX10_nextInteger 1 := ⟨by decide, by decide, by decide⟩
theorem mi_X10_nextInteger : Cond.instanceMethod yX10_nextInteger ∈ tbl := (in2 152 rfl rfl)
theorem ms_X10_nextInteger : Cond.selects RX10 yX10_nextInteger yX10_nextInteger ∈ tbl := pr1 (q := (yX10_nextInteger, 7)) 4 rfl
theorem mc_X10_nextSign : Cond.code yX10_nextSign cX10_nextSign 4 (some .int) ∈ tbl := in2 159 rfl rfl
theorem ok_X10_nextSign : okY yX10_nextSign 1 := ⟨by decide, by decide, by decide⟩
theorem mi_X10_nextSign : Cond.instanceMethod yX10_nextSign ∈ tbl := (in2 158 rfl rfl)
theorem ms_X10_nextSign : Cond.selects RX10 yX10_nextSign yX10_nextSign ∈ tbl := pr1 (q := (yX10_nextSign, 7)) 5 rfl
theorem mc_X10_signOfTwo : Cond.code yX10_signOfTwo cX10_signOfTwo 2 (some .int) ∈ tbl := in2 162 rfl rfl
theorem ok_X10_signOfTwo : okY yX10_signOfTwo 2 := ⟨by decide, by decide, by decide⟩
theorem mt_X10_signOfTwo : Cond.static yX10_signOfTwo ∈ tbl := (in2 161 rfl rfl)
theorem mc_X10_isBlank : Cond.code yX10_isBlank cX10_isBlank 1 (some .boolean) ∈ tbl := in2 135 rfl rfl
theorem ok_X10_isBlank : okY yX10_isBlank 1 := ⟨by decide, by decide, by decide⟩
theorem mt_X10_isBlank : Cond.static yX10_isBlank ∈ tbl := (in2 134 rfl rfl)
theorem mc_X10_isSmall : Cond.code yX10_isSmall cX10_isSmall 1 (some .boolean) ∈ tbl := in2 142 rfl rfl
theorem ok_X10_isSmall : okY yX10_isSmall 1 := ⟨by decide, by decide, by decide⟩
theorem mt_X10_isSmall : Cond.static yX10_isSmall ∈ tbl := (in2 141 rfl rfl)
theorem mc_X10_isDigit : Cond.code yX10_isDigit cX10_isDigit 1 (some .boolean) ∈ tbl := in2 149 rfl rfl
theorem ok_X10_isDigit : okY yX10_isDigit 1 := ⟨by decide, by decide, by decide⟩
theorem mt_X10_isDigit : Cond.static yX10_isDigit ∈ tbl := (in2 148 rfl rfl)
theorem mc_X11_init : Cond.code yX11_init cX11_init 1 (none) ∈ tbl := in1 26 rfl rfl
theorem ok_X11_init : okY yX11_init 0 := ⟨by decide, by decide, by decide⟩
theorem mi_X11_init : Cond.instanceMethod yX11_init ∈ tbl := (in1 25 rfl rfl)
theorem mc_X11_feed : Cond.code yX11_feed cX11_feed 6 (some .int) ∈ tbl := in2 77 rfl rfl
theorem ok_X11_feed : okY yX11_feed 5 := ⟨by decide, by decide, by decide⟩
theorem mi_X11_feed : Cond.instanceMethod yX11_feed ∈ tbl := (in2 75 rfl rfl)
theorem ms_X11_feed : Cond.selects RX11 yX11_feed yX11_feed ∈ tbl := (in2 76 rfl rfl)
theorem mc_X11_back : Cond.code yX11_back cX11_back 2 (some .int) ∈ tbl := in2 107 rfl rfl
theorem ok_X11_back : okY yX11_back 1 := ⟨by decide, by decide, by decide⟩
theorem mi_X11_back : Cond.instanceMethod yX11_back ∈ tbl := (in2 105 rfl rfl)
theorem ms_X11_back : Cond.selects RX11 yX11_back yX11_back ∈ tbl := (in2 106 rfl rfl)
theorem mc_X11_read : Cond.code yX11_read cX11_read 2 (some .int) ∈ tbl := in2 111 rfl rfl
theorem ok_X11_read : okY yX11_read 0 := ⟨by decide, by decide, by decide⟩
theorem mi_X11_read : Cond.instanceMethod yX11_read ∈ tbl := (in2 109 rfl rfl)
theorem ms_X11_read : Cond.selects RX11 yX11_read yX11_read ∈ tbl := (in2 110 rfl rfl)
theorem mc_X11_place : Cond.code yX11_place cX11_place 1 (some .int) ∈ tbl := in3 198 rfl rfl
theorem ok_X11_place : okY yX11_place 0 := ⟨by decide, by decide, by decide⟩
theorem mi_X11_place : Cond.instanceMethod yX11_place ∈ tbl := (in3 196 rfl rfl)
theorem ms_X11_place : Cond.selects RX11 yX11_place yX11_place ∈ tbl := (in3 197 rfl rfl)
theorem mc_X11_clock : Cond.code yX11_clock cX11_clock 2 (some .boolean) ∈ tbl := in3 202 rfl rfl
theorem ok_X11_clock : okY yX11_clock 1 := ⟨by decide, by decide, by decide⟩
theorem mi_X11_clock : Cond.instanceMethod yX11_clock ∈ tbl := (in3 200 rfl rfl)
theorem ms_X11_clock : Cond.selects RX11 yX11_clock yX11_clock ∈ tbl := (in3 201 rfl rfl)
theorem mc_X11_testify : Cond.code yX11_testify cX11_testify 11 (some .int) ∈ tbl := in3 207 rfl rfl
theorem ok_X11_testify : okY yX11_testify 7 := ⟨by decide, by decide, by decide⟩
theorem mi_X11_testify : Cond.instanceMethod yX11_testify ∈ tbl := (in3 205 rfl rfl)
theorem ms_X11_testify : Cond.selects RX11 yX11_testify yX11_testify ∈ tbl := (in3 206 rfl rfl)
theorem mc_X11_number : Cond.code yX11_number cX11_number 5 (some .boolean) ∈ tbl := in4 2 rfl rfl
theorem ok_X11_number : okY yX11_number 3 := ⟨by decide, by decide, by decide⟩
theorem mi_X11_number : Cond.instanceMethod yX11_number ∈ tbl := (in4 0 rfl rfl)
theorem ms_X11_number : Cond.selects RX11 yX11_number yX11_number ∈ tbl := (in4 1 rfl rfl)
theorem mc_X11_judge : Cond.code yX11_judge cX11_judge 6 (some .int) ∈ tbl := in4 7 rfl rfl
theorem ok_X11_judge : okY yX11_judge 2 := ⟨by decide, by decide, by decide⟩
theorem mi_X11_judge : Cond.instanceMethod yX11_judge ∈ tbl := (in4 5 rfl rfl)
theorem ms_X11_judge : Cond.selects RX11 yX11_judge yX11_judge ∈ tbl := (in4 6 rfl rfl)
theorem mc_X11_status : Cond.code yX11_status cX11_status 6 (some .int) ∈ tbl := in5 90 rfl rfl
theorem ok_X11_status : okY yX11_status 4 := ⟨by decide, by decide, by decide⟩
theorem mi_X11_status : Cond.instanceMethod yX11_status ∈ tbl := (in5 88 rfl rfl)
theorem ms_X11_status : Cond.selects RX11 yX11_status yX11_status ∈ tbl := (in5 89 rfl rfl)
theorem mc_X11_why : Cond.code yX11_why cX11_why 7 (some .int) ∈ tbl := in5 99 rfl rfl
theorem ok_X11_why : okY yX11_why 5 := ⟨by decide, by decide, by decide⟩
theorem mi_X11_why : Cond.instanceMethod yX11_why ∈ tbl := (in5 97 rfl rfl)
theorem ms_X11_why : Cond.selects RX11 yX11_why yX11_why ∈ tbl := (in5 98 rfl rfl)
theorem mc_X11_sum : Cond.code yX11_sum cX11_sum 4 (some .long) ∈ tbl := in5 111 rfl rfl
theorem ok_X11_sum : okY yX11_sum 3 := ⟨by decide, by decide, by decide⟩
theorem mi_X11_sum : Cond.instanceMethod yX11_sum ∈ tbl := (in5 109 rfl rfl)
theorem ms_X11_sum : Cond.selects RX11 yX11_sum yX11_sum ∈ tbl := (in5 110 rfl rfl)
theorem mc_X11_text : Cond.code yX11_text cX11_text 2 (some .int) ∈ tbl := in5 121 rfl rfl
theorem ok_X11_text : okY yX11_text 0 := ⟨by decide, by decide, by decide⟩
theorem mi_X11_text : Cond.instanceMethod yX11_text ∈ tbl := (in5 119 rfl rfl)
theorem ms_X11_text : Cond.selects RX11 yX11_text yX11_text ∈ tbl := (in5 120 rfl rfl)
theorem mc_X11_out : Cond.code yX11_out cX11_out 2 (some .int) ∈ tbl := in5 162 rfl rfl
theorem ok_X11_out : okY yX11_out 1 := ⟨by decide, by decide, by decide⟩
theorem mi_X11_out : Cond.instanceMethod yX11_out ∈ tbl := (in5 160 rfl rfl)
theorem ms_X11_out : Cond.selects RX11 yX11_out yX11_out ∈ tbl := (in5 161 rfl rfl)
theorem mc_X11_rule : Cond.code yX11_rule cX11_rule 4 (some .int) ∈ tbl := in5 167 rfl rfl
theorem ok_X11_rule : okY yX11_rule 2 := ⟨by decide, by decide, by decide⟩
theorem mi_X11_rule : Cond.instanceMethod yX11_rule ∈ tbl := (in5 165 rfl rfl)
theorem ms_X11_rule : Cond.selects RX11 yX11_rule yX11_rule ∈ tbl := (in5 166 rfl rfl)
theorem mc_X11_law : Cond.code yX11_law cX11_law 3 (some .int) ∈ tbl := in5 172 rfl rfl
theorem ok_X11_law : okY yX11_law 2 := ⟨by decide, by decide, by decide⟩
theorem mi_X11_law : Cond.instanceMethod yX11_law ∈ tbl := (in5 170 rfl rfl)
theorem ms_X11_law : Cond.selects RX11 yX11_law yX11_law ∈ tbl := (in5 171 rfl rfl)
theorem mc_X11_above : Cond.code yX11_above cX11_above 3 (some .int) ∈ tbl := in5 177 rfl rfl
theorem ok_X11_above : okY yX11_above 2 := ⟨by decide, by decide, by decide⟩
theorem mi_X11_above : Cond.instanceMethod yX11_above ∈ tbl := (in5 175 rfl rfl)
theorem ms_X11_above : Cond.selects RX11 yX11_above yX11_above ∈ tbl := (in5 176 rfl rfl)
theorem mc_X11_count : Cond.code yX11_count cX11_count 2 (some .int) ∈ tbl := in5 183 rfl rfl
theorem ok_X11_count : okY yX11_count 1 := ⟨by decide, by decide, by decide⟩
theorem mi_X11_count : Cond.instanceMethod yX11_count ∈ tbl := (in5 181 rfl rfl)
theorem ms_X11_count : Cond.selects RX11 yX11_count yX11_count ∈ tbl := (in5 182 rfl rfl)
theorem mc_X11_isDay : Cond.code yX11_isDay cX11_isDay 1 (some .boolean) ∈ tbl := in4 10 rfl rfl
theorem ok_X11_isDay : okY yX11_isDay 1 := ⟨by decide, by decide, by decide⟩
theorem mt_X11_isDay : Cond.static yX11_isDay ∈ tbl := (in4 9 rfl rfl)
theorem mc_X11_judgedTally : Cond.code yX11_judgedTally cX11_judgedTally 2 (some .int) ∈ tbl := in5 187 rfl rfl
theorem ok_X11_judgedTally : okY yX11_judgedTally 1 := ⟨by decide, by decide, by decide⟩
theorem mi_X11_judgedTally : Cond.instanceMethod yX11_judgedTally ∈ tbl := (in5 186 rfl rfl)
theorem ms_X11_judgedTally : Cond.selects RX11 yX11_judgedTally yX11_judgedTally ∈ tbl := pr3 (q := (yX11_judgedTally, 9)) 13 rfl
theorem mc_X12_init : Cond.code yX12_init cX12_init 1 (none) ∈ tbl := in5 192 rfl rfl
theorem ok_X12_init : okY yX12_init 0 := ⟨by decide, by decide, by decide⟩
theorem mi_X12_init : Cond.instanceMethod yX12_init ∈ tbl := (in5 191 rfl rfl)
theorem mc_X12_feed : Cond.code yX12_feed cX12_feed 6 (some .int) ∈ tbl := in7 77 rfl rfl
theorem ok_X12_feed : okY yX12_feed 5 := ⟨by decide, by decide, by decide⟩
theorem mi_X12_feed : Cond.instanceMethod yX12_feed ∈ tbl := (in7 75 rfl rfl)
theorem ms_X12_feed : Cond.selects RX12 yX12_feed yX12_feed ∈ tbl := (in7 76 rfl rfl)
theorem mc_X12_put : Cond.code yX12_put cX12_put 3 (none) ∈ tbl := in7 81 rfl rfl
theorem ok_X12_put : okY yX12_put 1 := ⟨by decide, by decide, by decide⟩
theorem mi_X12_put : Cond.instanceMethod yX12_put ∈ tbl := (in7 80 rfl rfl)
theorem ms_X12_put : Cond.selects RX12 yX12_put yX12_put ∈ tbl := pr3 (q := (yX12_put, 116)) 14 rfl
theorem mc_X12_back : Cond.code yX12_back cX12_back 2 (some .int) ∈ tbl := in7 85 rfl rfl
theorem ok_X12_back : okY yX12_back 1 := ⟨by decide, by decide, by decide⟩
theorem mi_X12_back : Cond.instanceMethod yX12_back ∈ tbl := (in7 83 rfl rfl)
theorem ms_X12_back : Cond.selects RX12 yX12_back yX12_back ∈ tbl := (in7 84 rfl rfl)
theorem mc_X12_at : Cond.code yX12_at cX12_at 2 (some .int) ∈ tbl := in7 97 rfl rfl
theorem ok_X12_at : okY yX12_at 1 := ⟨by decide, by decide, by decide⟩
theorem mi_X12_at : Cond.instanceMethod yX12_at ∈ tbl := (in7 96 rfl rfl)
theorem ms_X12_at : Cond.selects RX12 yX12_at yX12_at ∈ tbl := pr4 (q := (yX12_at, 116)) 0 rfl
theorem mc_X12_isDigit : Cond.code yX12_isDigit cX12_isDigit 1 (some .boolean) ∈ tbl := in5 204 rfl rfl
theorem ok_X12_isDigit : okY yX12_isDigit 1 := ⟨by decide, by decide, by decide⟩
theorem mt_X12_isDigit : Cond.static yX12_isDigit ∈ tbl := (in5 203 rfl rfl)
theorem mc_X12_isLetter : Cond.code yX12_isLetter cX12_isLetter 1 (some .boolean) ∈ tbl := in7 104 rfl rfl
theorem ok_X12_isLetter : okY yX12_isLetter 1 := ⟨by decide, by decide, by decide⟩
theorem mt_X12_isLetter : Cond.static yX12_isLetter ∈ tbl := (in7 103 rfl rfl)
theorem mc_X12_more : Cond.code yX12_more cX12_more 3 (some .long) ∈ tbl := in5 200 rfl rfl
theorem ok_X12_more : okY yX12_more 2 := ⟨by decide, by decide, by decide⟩
theorem mt_X12_more : Cond.static yX12_more ∈ tbl := (in5 199 rfl rfl)
theorem mc_X12_word : Cond.code yX12_word cX12_word 6 (some .long) ∈ tbl := in5 197 rfl rfl
theorem ok_X12_word : okY yX12_word 6 := ⟨by decide, by decide, by decide⟩
theorem mt_X12_word : Cond.static yX12_word ∈ tbl := (in5 196 rfl rfl)
theorem mc_X12_token : Cond.code yX12_token cX12_token 6 (none) ∈ tbl := in7 101 rfl rfl
theorem ok_X12_token : okY yX12_token 4 := ⟨by decide, by decide, by decide⟩
theorem mi_X12_token : Cond.instanceMethod yX12_token ∈ tbl := (in7 100 rfl rfl)
theorem ms_X12_token : Cond.selects RX12 yX12_token yX12_token ∈ tbl := pr4 (q := (yX12_token, 116)) 1 rfl
theorem mc_X12_cut : Cond.code yX12_cut cX12_cut 8 (none) ∈ tbl := in7 93 rfl rfl
theorem ok_X12_cut : okY yX12_cut 0 := ⟨by decide, by decide, by decide⟩
theorem mi_X12_cut : Cond.instanceMethod yX12_cut ∈ tbl := (in7 92 rfl rfl)
theorem ms_X12_cut : Cond.selects RX12 yX12_cut yX12_cut ∈ tbl := pr3 (q := (yX12_cut, 116)) 15 rfl
theorem mc_X12_sign : Cond.code yX12_sign cX12_sign 6 (some .int) ∈ tbl := in7 108 rfl rfl
theorem ok_X12_sign : okY yX12_sign 3 := ⟨by decide, by decide, by decide⟩
theorem mi_X12_sign : Cond.instanceMethod yX12_sign ∈ tbl := (in7 107 rfl rfl)
theorem ms_X12_sign : Cond.selects RX12 yX12_sign yX12_sign ∈ tbl := pr4 (q := (yX12_sign, 116)) 2 rfl
theorem mc_X12_is : Cond.code yX12_is cX12_is 2 (some .boolean) ∈ tbl := in7 112 rfl rfl
theorem ok_X12_is : okY yX12_is 1 := ⟨by decide, by decide, by decide⟩
theorem mi_X12_is : Cond.instanceMethod yX12_is ∈ tbl := (in7 111 rfl rfl)
theorem ms_X12_is : Cond.selects RX12 yX12_is yX12_is ∈ tbl := pr4 (q := (yX12_is, 116)) 3 rfl
theorem mc_X12_fail : Cond.code yX12_fail cX12_fail 2 (none) ∈ tbl := in7 124 rfl rfl
theorem ok_X12_fail : okY yX12_fail 1 := ⟨by decide, by decide, by decide⟩
theorem mi_X12_fail : Cond.instanceMethod yX12_fail ∈ tbl := (in7 123 rfl rfl)
theorem ms_X12_fail : Cond.selects RX12 yX12_fail yX12_fail ∈ tbl := pr4 (q := (yX12_fail, 116)) 6 rfl
theorem mc_X12_wrong : Cond.code yX12_wrong cX12_wrong 4 (none) ∈ tbl := in7 139 rfl rfl
theorem ok_X12_wrong : okY yX12_wrong 2 := ⟨by decide, by decide, by decide⟩
theorem mi_X12_wrong : Cond.instanceMethod yX12_wrong ∈ tbl := (in7 138 rfl rfl)
theorem ms_X12_wrong : Cond.selects RX12 yX12_wrong yX12_wrong ∈ tbl := pr4 (q := (yX12_wrong, 116)) 9 rfl
theorem mc_X12_next : Cond.code yX12_next cX12_next 1 (none) ∈ tbl := in7 120 rfl rfl
theorem ok_X12_next : okY yX12_next 0 := ⟨by decide, by decide, by decide⟩
theorem mi_X12_next : Cond.instanceMethod yX12_next ∈ tbl := (in7 119 rfl rfl)
theorem ms_X12_next : Cond.selects RX12 yX12_next yX12_next ∈ tbl := pr4 (q := (yX12_next, 116)) 5 rfl
theorem mc_X12_must : Cond.code yX12_must cX12_must 2 (none) ∈ tbl := in7 132 rfl rfl
theorem ok_X12_must : okY yX12_must 1 := ⟨by decide, by decide, by decide⟩
theorem mi_X12_must : Cond.instanceMethod yX12_must ∈ tbl := (in7 131 rfl rfl)
theorem ms_X12_must : Cond.selects RX12 yX12_must yX12_must ∈ tbl := pr4 (q := (yX12_must, 116)) 8 rfl
theorem mc_X12_find : Cond.code yX12_find cX12_find 5 (some .int) ∈ tbl := in7 135 rfl rfl
theorem ok_X12_find : okY yX12_find 3 := ⟨by decide, by decide, by decide⟩
theorem mt_X12_find : Cond.static yX12_find ∈ tbl := (in7 134 rfl rfl)
theorem mc_X12_tells : Cond.code yX12_tells cX12_tells 5 (some .int) ∈ tbl := in7 128 rfl rfl
theorem ok_X12_tells : okY yX12_tells 3 := ⟨by decide, by decide, by decide⟩
theorem mi_X12_tells : Cond.instanceMethod yX12_tells ∈ tbl := (in7 127 rfl rfl)
theorem ms_X12_tells : Cond.selects RX12 yX12_tells yX12_tells ∈ tbl := pr4 (q := (yX12_tells, 116)) 7 rfl
theorem mc_X12_known : Cond.code yX12_known cX12_known 5 (some .int) ∈ tbl := in7 168 rfl rfl
theorem ok_X12_known : okY yX12_known 3 := ⟨by decide, by decide, by decide⟩
theorem mi_X12_known : Cond.instanceMethod yX12_known ∈ tbl := (in7 167 rfl rfl)
theorem ms_X12_known : Cond.selects RX12 yX12_known yX12_known ∈ tbl := pr5 (q := (yX12_known, 116)) 0 rfl
theorem mc_X12_whole : Cond.code yX12_whole cX12_whole 3 (some .int) ∈ tbl := in7 143 rfl rfl
theorem ok_X12_whole : okY yX12_whole 1 := ⟨by decide, by decide, by decide⟩
theorem mi_X12_whole : Cond.instanceMethod yX12_whole ∈ tbl := (in7 142 rfl rfl)
theorem ms_X12_whole : Cond.selects RX12 yX12_whole yX12_whole ∈ tbl := pr4 (q := (yX12_whole, 116)) 10 rfl
theorem mc_X12_read : Cond.code yX12_read cX12_read 9 (some .int) ∈ tbl := in7 89 rfl rfl
theorem ok_X12_read : okY yX12_read 0 := ⟨by decide, by decide, by decide⟩
theorem mi_X12_read : Cond.instanceMethod yX12_read ∈ tbl := (in7 87 rfl rfl)
theorem ms_X12_read : Cond.selects RX12 yX12_read yX12_read ∈ tbl := (in7 88 rfl rfl)
theorem mc_X12_place : Cond.code yX12_place cX12_place 1 (some .int) ∈ tbl := in7 203 rfl rfl
theorem ok_X12_place : okY yX12_place 0 := ⟨by decide, by decide, by decide⟩
theorem mi_X12_place : Cond.instanceMethod yX12_place ∈ tbl := (in7 201 rfl rfl)
theorem ms_X12_place : Cond.selects RX12 yX12_place yX12_place ∈ tbl := (in7 202 rfl rfl)
theorem mc_X12_tell : Cond.code yX12_tell cX12_tell 3 (none) ∈ tbl := in7 116 rfl rfl
theorem ok_X12_tell : okY yX12_tell 0 := ⟨by decide, by decide, by decide⟩
theorem mi_X12_tell : Cond.instanceMethod yX12_tell ∈ tbl := (in7 115 rfl rfl)
theorem ms_X12_tell : Cond.selects RX12 yX12_tell yX12_tell ∈ tbl := pr4 (q := (yX12_tell, 116)) 4 rfl
theorem mc_X12_joins : Cond.code yX12_joins cX12_joins 5 (none) ∈ tbl := in7 199 rfl rfl
theorem ok_X12_joins : okY yX12_joins 1 := ⟨by decide, by decide, by decide⟩
theorem mi_X12_joins : Cond.instanceMethod yX12_joins ∈ tbl := (in7 198 rfl rfl)
theorem ms_X12_joins : Cond.selects RX12 yX12_joins yX12_joins ∈ tbl := pr5 (q := (yX12_joins, 116)) 7 rfl
theorem mc_X12_tellLaw : Cond.code yX12_tellLaw cX12_tellLaw 6 (none) ∈ tbl := in7 147 rfl rfl
theorem ok_X12_tellLaw : okY yX12_tellLaw 0 := ⟨by decide, by decide, by decide⟩
theorem mi_X12_tellLaw : Cond.instanceMethod yX12_tellLaw ∈ tbl := (in7 146 rfl rfl)
theorem ms_X12_tellLaw : Cond.selects RX12 yX12_tellLaw yX12_tellLaw ∈ tbl := pr4 (q := (yX12_tellLaw, 116)) 11 rfl
theorem mc_X12_tellRule : Cond.code yX12_tellRule cX12_tellRule 6 (none) ∈ tbl := in7 152 rfl rfl
theorem ok_X12_tellRule : okY yX12_tellRule 1 := ⟨by decide, by decide, by decide⟩
theorem mi_X12_tellRule : Cond.instanceMethod yX12_tellRule ∈ tbl := (in7 151 rfl rfl)
theorem ms_X12_tellRule : Cond.selects RX12 yX12_tellRule yX12_tellRule ∈ tbl := pr4 (q := (yX12_tellRule, 116)) 12 rfl
theorem mc_X12_literal : Cond.code yX12_literal cX12_literal 3 (none) ∈ tbl := in7 195 rfl rfl
theorem ok_X12_literal : okY yX12_literal 0 := ⟨by decide, by decide, by decide⟩
theorem mi_X12_literal : Cond.instanceMethod yX12_literal ∈ tbl := (in7 194 rfl rfl)
theorem ms_X12_literal : Cond.selects RX12 yX12_literal yX12_literal ∈ tbl := pr5 (q := (yX12_literal, 116)) 6 rfl
theorem mc_X12_term : Cond.code yX12_term cX12_term 3 (some .int) ∈ tbl := in7 160 rfl rfl
theorem ok_X12_term : okY yX12_term 0 := ⟨by decide, by decide, by decide⟩
theorem mi_X12_term : Cond.instanceMethod yX12_term ∈ tbl := (in7 159 rfl rfl)
theorem ms_X12_term : Cond.selects RX12 yX12_term yX12_term ∈ tbl := pr4 (q := (yX12_term, 116)) 14 rfl
theorem mc_X12_variable : Cond.code yX12_variable cX12_variable 2 (some .int) ∈ tbl := in7 164 rfl rfl
theorem ok_X12_variable : okY yX12_variable 0 := ⟨by decide, by decide, by decide⟩
theorem mi_X12_variable : Cond.instanceMethod yX12_variable ∈ tbl := (in7 163 rfl rfl)
theorem ms_X12_variable : Cond.selects RX12 yX12_variable yX12_variable ∈ tbl := pr4 (q := (yX12_variable, 116)) 15 rfl
theorem mc_X12_tellCond : Cond.code yX12_tellCond cX12_tellCond 3 (none) ∈ tbl := in7 156 rfl rfl
theorem ok_X12_tellCond : okY yX12_tellCond 0 := ⟨by decide, by decide, by decide⟩
theorem mi_X12_tellCond : Cond.instanceMethod yX12_tellCond ∈ tbl := (in7 155 rfl rfl)
theorem ms_X12_tellCond : Cond.selects RX12 yX12_tellCond yX12_tellCond ∈ tbl := pr4 (q := (yX12_tellCond, 116)) 13 rfl
theorem mc_X12_emit : Cond.code yX12_emit cX12_emit 4 (none) ∈ tbl := in7 184 rfl rfl
theorem ok_X12_emit : okY yX12_emit 3 := ⟨by decide, by decide, by decide⟩
theorem mi_X12_emit : Cond.instanceMethod yX12_emit ∈ tbl := (in7 183 rfl rfl)
theorem ms_X12_emit : Cond.selects RX12 yX12_emit yX12_emit ∈ tbl := pr5 (q := (yX12_emit, 116)) 4 rfl
theorem mc_X12_strength : Cond.code yX12_strength cX12_strength 1 (some .int) ∈ tbl := in7 191 rfl rfl
theorem ok_X12_strength : okY yX12_strength 1 := ⟨by decide, by decide, by decide⟩
theorem mt_X12_strength : Cond.static yX12_strength ∈ tbl := (in7 190 rfl rfl)
theorem mc_X12_settles : Cond.code yX12_settles cX12_settles 3 (none) ∈ tbl := in7 188 rfl rfl
theorem ok_X12_settles : okY yX12_settles 1 := ⟨by decide, by decide, by decide⟩
theorem mi_X12_settles : Cond.instanceMethod yX12_settles ∈ tbl := (in7 187 rfl rfl)
theorem ms_X12_settles : Cond.selects RX12 yX12_settles yX12_settles ∈ tbl := pr5 (q := (yX12_settles, 116)) 5 rfl
theorem mc_X12_stacks : Cond.code yX12_stacks cX12_stacks 2 (none) ∈ tbl := in7 176 rfl rfl
theorem ok_X12_stacks : okY yX12_stacks 1 := ⟨by decide, by decide, by decide⟩
theorem mi_X12_stacks : Cond.instanceMethod yX12_stacks ∈ tbl := (in7 175 rfl rfl)
theorem ms_X12_stacks : Cond.selects RX12 yX12_stacks yX12_stacks ∈ tbl := pr5 (q := (yX12_stacks, 116)) 2 rfl
theorem mc_X12_expression : Cond.code yX12_expression cX12_expression 4 (none) ∈ tbl := in7 172 rfl rfl
theorem ok_X12_expression : okY yX12_expression 0 := ⟨by decide, by decide, by decide⟩
theorem mi_X12_expression : Cond.instanceMethod yX12_expression ∈ tbl := (in7 171 rfl rfl)
theorem ms_X12_expression : Cond.selects RX12 yX12_expression yX12_expression ∈ tbl := pr5 (q := (yX12_expression, 116)) 1 rfl
theorem mc_X12_unit : Cond.code yX12_unit cX12_unit 4 (none) ∈ tbl := in7 180 rfl rfl
theorem ok_X12_unit : okY yX12_unit 0 := ⟨by decide, by decide, by decide⟩
theorem mi_X12_unit : Cond.instanceMethod yX12_unit ∈ tbl := (in7 179 rfl rfl)
theorem ms_X12_unit : Cond.selects RX12 yX12_unit yX12_unit ∈ tbl := pr5 (q := (yX12_unit, 116)) 3 rfl
theorem mc_X12_clock : Cond.code yX12_clock cX12_clock 2 (some .boolean) ∈ tbl := in7 207 rfl rfl
theorem ok_X12_clock : okY yX12_clock 1 := ⟨by decide, by decide, by decide⟩
theorem mi_X12_clock : Cond.instanceMethod yX12_clock ∈ tbl := (in7 205 rfl rfl)
theorem ms_X12_clock : Cond.selects RX12 yX12_clock yX12_clock ∈ tbl := (in7 206 rfl rfl)
theorem mc_X12_isOne : Cond.code yX12_isOne cX12_isOne 2 (some .boolean) ∈ tbl := in7 218 rfl rfl
theorem ok_X12_isOne : okY yX12_isOne 2 := ⟨by decide, by decide, by decide⟩
theorem mt_X12_isOne : Cond.static yX12_isOne ∈ tbl := (in7 217 rfl rfl)
theorem mc_X12_literalOf : Cond.code yX12_literalOf cX12_literalOf 7 (some .int) ∈ tbl := in7 215 rfl rfl
theorem ok_X12_literalOf : okY yX12_literalOf 6 := ⟨by decide, by decide, by decide⟩
theorem mi_X12_literalOf : Cond.instanceMethod yX12_literalOf ∈ tbl := (in7 214 rfl rfl)
theorem ms_X12_literalOf : Cond.selects RX12 yX12_literalOf yX12_literalOf ∈ tbl := pr5 (q := (yX12_literalOf, 116)) 8 rfl
theorem mc_X12_testify : Cond.code yX12_testify cX12_testify 10 (some .int) ∈ tbl := in7 211 rfl rfl
theorem ok_X12_testify : okY yX12_testify 7 := ⟨by decide, by decide, by decide⟩
theorem mi_X12_testify : Cond.instanceMethod yX12_testify ∈ tbl := (in7 209 rfl rfl)
theorem ms_X12_testify : Cond.selects RX12 yX12_testify yX12_testify ∈ tbl := (in7 210 rfl rfl)
theorem mc_X12_number : Cond.code yX12_number cX12_number 4 (some .boolean) ∈ tbl := in7 223 rfl rfl
theorem ok_X12_number : okY yX12_number 3 := ⟨by decide, by decide, by decide⟩
theorem mi_X12_number : Cond.instanceMethod yX12_number ∈ tbl := (in7 221 rfl rfl)
theorem ms_X12_number : Cond.selects RX12 yX12_number yX12_number ∈ tbl := (in7 222 rfl rfl)
theorem mc_X12_common : Cond.code yX12_common cX12_common 10 (some .long) ∈ tbl := in8 38 rfl rfl
theorem ok_X12_common : okY yX12_common 2 := ⟨by decide, by decide, by decide⟩
theorem mt_X12_common : Cond.static yX12_common ∈ tbl := (in8 37 rfl rfl)
theorem mc_X12_lowest : Cond.code yX12_lowest cX12_lowest 7 (none) ∈ tbl := in8 35 rfl rfl
theorem ok_X12_lowest : okY yX12_lowest 2 := ⟨by decide, by decide, by decide⟩
theorem mi_X12_lowest : Cond.instanceMethod yX12_lowest ∈ tbl := (in8 34 rfl rfl)
theorem ms_X12_lowest : Cond.selects RX12 yX12_lowest yX12_lowest ∈ tbl := pr6 (q := (yX12_lowest, 116)) 2 rfl
theorem mc_X12_personOf : Cond.code yX12_personOf cX12_personOf 2 (some .int) ∈ tbl := in8 23 rfl rfl
theorem ok_X12_personOf : okY yX12_personOf 2 := ⟨by decide, by decide, by decide⟩
theorem mt_X12_personOf : Cond.static yX12_personOf ∈ tbl := (in8 22 rfl rfl)
theorem mc_X12_worth : Cond.code yX12_worth cX12_worth 7 (none) ∈ tbl := in8 31 rfl rfl
theorem ok_X12_worth : okY yX12_worth 3 := ⟨by decide, by decide, by decide⟩
theorem mi_X12_worth : Cond.instanceMethod yX12_worth ∈ tbl := (in8 30 rfl rfl)
theorem ms_X12_worth : Cond.selects RX12 yX12_worth yX12_worth ∈ tbl := pr6 (q := (yX12_worth, 116)) 1 rfl
theorem mc_X12_join : Cond.code yX12_join cX12_join 10 (none) ∈ tbl := in8 44 rfl rfl
theorem ok_X12_join : okY yX12_join 5 := ⟨by decide, by decide, by decide⟩
theorem mi_X12_join : Cond.instanceMethod yX12_join ∈ tbl := (in8 43 rfl rfl)
theorem ms_X12_join : Cond.selects RX12 yX12_join yX12_join ∈ tbl := pr6 (q := (yX12_join, 116)) 3 rfl
theorem mc_X12_against : Cond.code yX12_against cX12_against 8 (some .int) ∈ tbl := in8 47 rfl rfl
theorem ok_X12_against : okY yX12_against 4 := ⟨by decide, by decide, by decide⟩
theorem mt_X12_against : Cond.static yX12_against ∈ tbl := (in8 46 rfl rfl)
theorem mc_X12_instances : Cond.code yX12_instances cX12_instances 4 (some .int) ∈ tbl := in8 12 rfl rfl
theorem ok_X12_instances : okY yX12_instances 1 := ⟨by decide, by decide, by decide⟩
theorem mi_X12_instances : Cond.instanceMethod yX12_instances ∈ tbl := (in8 11 rfl rfl)
theorem ms_X12_instances : Cond.selects RX12 yX12_instances yX12_instances ∈ tbl := pr5 (q := (yX12_instances, 116)) 13 rfl
theorem mc_X12_gives : Cond.code yX12_gives cX12_gives 5 (none) ∈ tbl := in8 16 rfl rfl
theorem ok_X12_gives : okY yX12_gives 2 := ⟨by decide, by decide, by decide⟩
theorem mi_X12_gives : Cond.instanceMethod yX12_gives ∈ tbl := (in8 15 rfl rfl)
theorem ms_X12_gives : Cond.selects RX12 yX12_gives yX12_gives ∈ tbl := pr5 (q := (yX12_gives, 116)) 14 rfl
theorem mc_X12_literalBy : Cond.code yX12_literalBy cX12_literalBy 7 (some .int) ∈ tbl := in8 51 rfl rfl
theorem ok_X12_literalBy : okY yX12_literalBy 4 := ⟨by decide, by decide, by decide⟩
theorem mi_X12_literalBy : Cond.instanceMethod yX12_literalBy ∈ tbl := (in8 50 rfl rfl)
theorem ms_X12_literalBy : Cond.selects RX12 yX12_literalBy yX12_literalBy ∈ tbl := pr6 (q := (yX12_literalBy, 116)) 4 rfl
theorem mc_X12_isInForce : Cond.code yX12_isInForce cX12_isInForce 5 (some .boolean) ∈ tbl := in8 8 rfl rfl
theorem ok_X12_isInForce : okY yX12_isInForce 3 := ⟨by decide, by decide, by decide⟩
theorem mi_X12_isInForce : Cond.instanceMethod yX12_isInForce ∈ tbl := (in8 7 rfl rfl)
theorem ms_X12_isInForce : Cond.selects RX12 yX12_isInForce yX12_isInForce ∈ tbl := pr5 (q := (yX12_isInForce, 116)) 12 rfl
theorem mc_X12_standing : Cond.code yX12_standing cX12_standing 4 (some .boolean) ∈ tbl := in8 20 rfl rfl
theorem ok_X12_standing : okY yX12_standing 1 := ⟨by decide, by decide, by decide⟩
theorem mi_X12_standing : Cond.instanceMethod yX12_standing ∈ tbl := (in8 19 rfl rfl)
theorem ms_X12_standing : Cond.selects RX12 yX12_standing yX12_standing ∈ tbl := pr5 (q := (yX12_standing, 116)) 15 rfl
theorem mc_X12_compares : Cond.code yX12_compares cX12_compares 7 (some .boolean) ∈ tbl := in8 27 rfl rfl
theorem ok_X12_compares : okY yX12_compares 1 := ⟨by decide, by decide, by decide⟩
theorem mi_X12_compares : Cond.instanceMethod yX12_compares ∈ tbl := (in8 26 rfl rfl)
theorem ms_X12_compares : Cond.selects RX12 yX12_compares yX12_compares ∈ tbl := pr6 (q := (yX12_compares, 116)) 0 rfl
theorem mc_X12_isHigher : Cond.code yX12_isHigher cX12_isHigher 6 (some .boolean) ∈ tbl := in7 232 rfl rfl
theorem ok_X12_isHigher : okY yX12_isHigher 4 := ⟨by decide, by decide, by decide⟩
theorem mi_X12_isHigher : Cond.instanceMethod yX12_isHigher ∈ tbl := (in7 231 rfl rfl)
theorem ms_X12_isHigher : Cond.selects RX12 yX12_isHigher yX12_isHigher ∈ tbl := pr5 (q := (yX12_isHigher, 116)) 9 rfl
theorem mc_X12_above : Cond.code yX12_above cX12_above 3 (some .int) ∈ tbl := in7 228 rfl rfl
theorem ok_X12_above : okY yX12_above 2 := ⟨by decide, by decide, by decide⟩
theorem mi_X12_above : Cond.instanceMethod yX12_above ∈ tbl := (in7 226 rfl rfl)
theorem ms_X12_above : Cond.selects RX12 yX12_above yX12_above ∈ tbl := (in7 227 rfl rfl)
theorem mc_X12_judge : Cond.code yX12_judge cX12_judge 6 (some .int) ∈ tbl := in7 236 rfl rfl
theorem ok_X12_judge : okY yX12_judge 2 := ⟨by decide, by decide, by decide⟩
theorem mi_X12_judge : Cond.instanceMethod yX12_judge ∈ tbl := (in7 234 rfl rfl)
theorem ms_X12_judge : Cond.selects RX12 yX12_judge yX12_judge ∈ tbl := (in7 235 rfl rfl)
theorem mc_X12_isLiteral : Cond.code yX12_isLiteral cX12_isLiteral 5 (some .boolean) ∈ tbl := in8 63 rfl rfl
theorem ok_X12_isLiteral : okY yX12_isLiteral 1 := ⟨by decide, by decide, by decide⟩
theorem mi_X12_isLiteral : Cond.instanceMethod yX12_isLiteral ∈ tbl := (in8 62 rfl rfl)
theorem ms_X12_isLiteral : Cond.selects RX12 yX12_isLiteral yX12_isLiteral ∈ tbl := pr6 (q := (yX12_isLiteral, 116)) 7 rfl
theorem mc_X12_facts : Cond.code yX12_facts cX12_facts 4 (none) ∈ tbl := in8 0 rfl rfl
theorem ok_X12_facts : okY yX12_facts 2 := ⟨by decide, by decide, by decide⟩
theorem mi_X12_facts : Cond.instanceMethod yX12_facts ∈ tbl := (in7 239 rfl rfl)
theorem ms_X12_facts : Cond.selects RX12 yX12_facts yX12_facts ∈ tbl := pr5 (q := (yX12_facts, 116)) 10 rfl
theorem mc_X12_instantiates : Cond.code yX12_instantiates cX12_instantiates 8 (none) ∈ tbl := in8 4 rfl rfl
theorem ok_X12_instantiates : okY yX12_instantiates 2 := ⟨by decide, by decide, by decide⟩
theorem mi_X12_instantiates : Cond.instanceMethod yX12_instantiates ∈ tbl := (in8 3 rfl rfl)
theorem ms_X12_instantiates : Cond.selects RX12 yX12_instantiates yX12_instantiates ∈ tbl := pr5 (q := (yX12_instantiates, 116)) 11 rfl
theorem mc_X12_steps : Cond.code yX12_steps cX12_steps 6 (none) ∈ tbl := in8 55 rfl rfl
theorem ok_X12_steps : okY yX12_steps 0 := ⟨by decide, by decide, by decide⟩
theorem mi_X12_steps : Cond.instanceMethod yX12_steps ∈ tbl := (in8 54 rfl rfl)
theorem ms_X12_steps : Cond.selects RX12 yX12_steps yX12_steps ∈ tbl := pr6 (q := (yX12_steps, 116)) 5 rfl
theorem mc_X12_grows : Cond.code yX12_grows cX12_grows 3 (some .boolean) ∈ tbl := in8 59 rfl rfl
theorem ok_X12_grows : okY yX12_grows 0 := ⟨by decide, by decide, by decide⟩
theorem mi_X12_grows : Cond.instanceMethod yX12_grows ∈ tbl := (in8 58 rfl rfl)
theorem ms_X12_grows : Cond.selects RX12 yX12_grows yX12_grows ∈ tbl := pr6 (q := (yX12_grows, 116)) 6 rfl
theorem mc_X12_isProved : Cond.code yX12_isProved cX12_isProved 6 (some .boolean) ∈ tbl := in8 67 rfl rfl
theorem ok_X12_isProved : okY yX12_isProved 1 := ⟨by decide, by decide, by decide⟩
theorem mi_X12_isProved : Cond.instanceMethod yX12_isProved ∈ tbl := (in8 66 rfl rfl)
theorem ms_X12_isProved : Cond.selects RX12 yX12_isProved yX12_isProved ∈ tbl := pr6 (q := (yX12_isProved, 116)) 8 rfl
theorem mc_X12_isAgainst : Cond.code yX12_isAgainst cX12_isAgainst 4 (some .boolean) ∈ tbl := in8 75 rfl rfl
theorem ok_X12_isAgainst : okY yX12_isAgainst 2 := ⟨by decide, by decide, by decide⟩
theorem mi_X12_isAgainst : Cond.instanceMethod yX12_isAgainst ∈ tbl := (in8 74 rfl rfl)
theorem ms_X12_isAgainst : Cond.selects RX12 yX12_isAgainst yX12_isAgainst ∈ tbl := pr6 (q := (yX12_isAgainst, 116)) 10 rfl
theorem mc_X12_isRefuted : Cond.code yX12_isRefuted cX12_isRefuted 4 (some .boolean) ∈ tbl := in8 71 rfl rfl
theorem ok_X12_isRefuted : okY yX12_isRefuted 1 := ⟨by decide, by decide, by decide⟩
theorem mi_X12_isRefuted : Cond.instanceMethod yX12_isRefuted ∈ tbl := (in8 70 rfl rfl)
theorem ms_X12_isRefuted : Cond.selects RX12 yX12_isRefuted yX12_isRefuted ∈ tbl := pr6 (q := (yX12_isRefuted, 116)) 9 rfl
theorem mc_X12_because : Cond.code yX12_because cX12_because 4 (none) ∈ tbl := in8 79 rfl rfl
theorem ok_X12_because : okY yX12_because 1 := ⟨by decide, by decide, by decide⟩
theorem mi_X12_because : Cond.instanceMethod yX12_because ∈ tbl := (in8 78 rfl rfl)
theorem ms_X12_because : Cond.selects RX12 yX12_because yX12_because ∈ tbl := pr6 (q := (yX12_because, 116)) 11 rfl
theorem mc_X12_reckons : Cond.code yX12_reckons cX12_reckons 28 (none) ∈ tbl := in8 83 rfl rfl
theorem ok_X12_reckons : okY yX12_reckons 2 := ⟨by decide, by decide, by decide⟩
theorem mi_X12_reckons : Cond.instanceMethod yX12_reckons ∈ tbl := (in8 82 rfl rfl)
theorem ms_X12_reckons : Cond.selects RX12 yX12_reckons yX12_reckons ∈ tbl := pr6 (q := (yX12_reckons, 116)) 12 rfl
theorem mc_X12_status : Cond.code yX12_status cX12_status 6 (some .int) ∈ tbl := in8 87 rfl rfl
theorem ok_X12_status : okY yX12_status 4 := ⟨by decide, by decide, by decide⟩
theorem mi_X12_status : Cond.instanceMethod yX12_status ∈ tbl := (in8 85 rfl rfl)
theorem ms_X12_status : Cond.selects RX12 yX12_status yX12_status ∈ tbl := (in8 86 rfl rfl)
theorem mc_X12_why : Cond.code yX12_why cX12_why 7 (some .int) ∈ tbl := in8 91 rfl rfl
theorem ok_X12_why : okY yX12_why 5 := ⟨by decide, by decide, by decide⟩
theorem mi_X12_why : Cond.instanceMethod yX12_why ∈ tbl := (in8 89 rfl rfl)
theorem ms_X12_why : Cond.selects RX12 yX12_why yX12_why ∈ tbl := (in8 90 rfl rfl)
theorem mc_X12_sum : Cond.code yX12_sum cX12_sum 5 (some .long) ∈ tbl := in8 95 rfl rfl
theorem ok_X12_sum : okY yX12_sum 3 := ⟨by decide, by decide, by decide⟩
theorem mi_X12_sum : Cond.instanceMethod yX12_sum ∈ tbl := (in8 93 rfl rfl)
theorem ms_X12_sum : Cond.selects RX12 yX12_sum yX12_sum ∈ tbl := (in8 94 rfl rfl)
theorem mc_X12_byteOut : Cond.code yX12_byteOut cX12_byteOut 2 (none) ∈ tbl := in8 112 rfl rfl
theorem ok_X12_byteOut : okY yX12_byteOut 1 := ⟨by decide, by decide, by decide⟩
theorem mi_X12_byteOut : Cond.instanceMethod yX12_byteOut ∈ tbl := (in8 111 rfl rfl)
theorem ms_X12_byteOut : Cond.selects RX12 yX12_byteOut yX12_byteOut ∈ tbl := pr6 (q := (yX12_byteOut, 116)) 15 rfl
theorem mc_X12_nameOut : Cond.code yX12_nameOut cX12_nameOut 7 (none) ∈ tbl := in8 116 rfl rfl
theorem ok_X12_nameOut : okY yX12_nameOut 1 := ⟨by decide, by decide, by decide⟩
theorem mi_X12_nameOut : Cond.instanceMethod yX12_nameOut ∈ tbl := (in8 115 rfl rfl)
theorem ms_X12_nameOut : Cond.selects RX12 yX12_nameOut yX12_nameOut ∈ tbl := pr7 (q := (yX12_nameOut, 116)) 0 rfl
theorem mc_X12_numberOut : Cond.code yX12_numberOut cX12_numberOut 7 (none) ∈ tbl := in8 120 rfl rfl
theorem ok_X12_numberOut : okY yX12_numberOut 1 := ⟨by decide, by decide, by decide⟩
theorem mi_X12_numberOut : Cond.instanceMethod yX12_numberOut ∈ tbl := (in8 119 rfl rfl)
theorem ms_X12_numberOut : Cond.selects RX12 yX12_numberOut yX12_numberOut ∈ tbl := pr7 (q := (yX12_numberOut, 116)) 1 rfl
theorem mc_X12_wordOut : Cond.code yX12_wordOut cX12_wordOut 7 (none) ∈ tbl := in8 108 rfl rfl
theorem ok_X12_wordOut : okY yX12_wordOut 6 := ⟨by decide, by decide, by decide⟩
theorem mi_X12_wordOut : Cond.instanceMethod yX12_wordOut ∈ tbl := (in8 107 rfl rfl)
theorem ms_X12_wordOut : Cond.selects RX12 yX12_wordOut yX12_wordOut ∈ tbl := pr6 (q := (yX12_wordOut, 116)) 14 rfl
theorem mc_X12_text : Cond.code yX12_text cX12_text 4 (some .int) ∈ tbl := in8 100 rfl rfl
theorem ok_X12_text : okY yX12_text 0 := ⟨by decide, by decide, by decide⟩
theorem mi_X12_text : Cond.instanceMethod yX12_text ∈ tbl := (in8 98 rfl rfl)
theorem ms_X12_text : Cond.selects RX12 yX12_text yX12_text ∈ tbl := (in8 99 rfl rfl)
theorem mc_X12_lineOf : Cond.code yX12_lineOf cX12_lineOf 7 (none) ∈ tbl := in8 104 rfl rfl
theorem ok_X12_lineOf : okY yX12_lineOf 1 := ⟨by decide, by decide, by decide⟩
theorem mi_X12_lineOf : Cond.instanceMethod yX12_lineOf ∈ tbl := (in8 103 rfl rfl)
theorem ms_X12_lineOf : Cond.selects RX12 yX12_lineOf yX12_lineOf ∈ tbl := pr6 (q := (yX12_lineOf, 116)) 13 rfl
theorem mc_X12_out : Cond.code yX12_out cX12_out 2 (some .int) ∈ tbl := in8 126 rfl rfl
theorem ok_X12_out : okY yX12_out 1 := ⟨by decide, by decide, by decide⟩
theorem mi_X12_out : Cond.instanceMethod yX12_out ∈ tbl := (in8 124 rfl rfl)
theorem ms_X12_out : Cond.selects RX12 yX12_out yX12_out ∈ tbl := (in8 125 rfl rfl)
theorem mc_X12_rule : Cond.code yX12_rule cX12_rule 3 (some .int) ∈ tbl := in8 130 rfl rfl
theorem ok_X12_rule : okY yX12_rule 2 := ⟨by decide, by decide, by decide⟩
theorem mi_X12_rule : Cond.instanceMethod yX12_rule ∈ tbl := (in8 128 rfl rfl)
theorem ms_X12_rule : Cond.selects RX12 yX12_rule yX12_rule ∈ tbl := (in8 129 rfl rfl)
theorem mc_X12_law : Cond.code yX12_law cX12_law 3 (some .int) ∈ tbl := in8 134 rfl rfl
theorem ok_X12_law : okY yX12_law 2 := ⟨by decide, by decide, by decide⟩
theorem mi_X12_law : Cond.instanceMethod yX12_law ∈ tbl := (in8 132 rfl rfl)
theorem ms_X12_law : Cond.selects RX12 yX12_law yX12_law ∈ tbl := (in8 133 rfl rfl)
theorem mc_X12_count : Cond.code yX12_count cX12_count 2 (some .int) ∈ tbl := in8 138 rfl rfl
theorem ok_X12_count : okY yX12_count 1 := ⟨by decide, by decide, by decide⟩
theorem mi_X12_count : Cond.instanceMethod yX12_count ∈ tbl := (in8 136 rfl rfl)
theorem ms_X12_count : Cond.selects RX12 yX12_count yX12_count ∈ tbl := (in8 137 rfl rfl)
theorem mc_J13_compare_74951 : Cond.code yJ13_compare_74951 cJ13_compare_74951 4 (some .int) ∈ tbl := in5 10 rfl rfl
theorem ok_J13_compare_74951 : okY yJ13_compare_74951 2 := ⟨by decide, by decide, by decide⟩
theorem mt_J13_compare_74951 : Cond.static yJ13_compare_74951 ∈ tbl := (in5 9 rfl rfl)
theorem mc_J9_abs_067f4 : Cond.code yJ9_abs_067f4 cJ9_abs_067f4 2 (some .long) ∈ tbl := in5 156 rfl rfl
theorem ok_J9_abs_067f4 : okY yJ9_abs_067f4 1 := ⟨by decide, by decide, by decide⟩
theorem mt_J9_abs_067f4 : Cond.static yJ9_abs_067f4 ∈ tbl := (in5 155 rfl rfl)
theorem mc_J9_max_7cf53 : Cond.code yJ9_max_7cf53 cJ9_max_7cf53 2 (some .int) ∈ tbl := in1 60 rfl rfl
theorem ok_J9_max_7cf53 : okY yJ9_max_7cf53 2 := ⟨by decide, by decide, by decide⟩
theorem mt_J9_max_7cf53 : Cond.static yJ9_max_7cf53 ∈ tbl := (in1 59 rfl rfl)
theorem mc_J9_min_7cf53 : Cond.code yJ9_min_7cf53 cJ9_min_7cf53 2 (some .int) ∈ tbl := in2 89 rfl rfl
theorem ok_J9_min_7cf53 : okY yJ9_min_7cf53 2 := ⟨by decide, by decide, by decide⟩
theorem mt_J9_min_7cf53 : Cond.static yJ9_min_7cf53 ∈ tbl := (in2 88 rfl rfl)
theorem mc_J0_length_8abf5 : Cond.code yJ0_length_8abf5 cJ0_length_8abf5 1 (some .int) ∈ tbl := in1 164 rfl rfl
theorem ok_J0_length_8abf5 : okY yJ0_length_8abf5 0 := ⟨by decide, by decide, by decide⟩
theorem mi_J0_length_8abf5 : Cond.instanceMethod yJ0_length_8abf5 ∈ tbl := (in1 162 rfl rfl)
theorem ms_J0_length_8abf5 : Cond.selects RJ0 yJ0_length_8abf5 yJ0_length_8abf5 ∈ tbl := (in1 163 rfl rfl)
theorem mc_J0_charAt_5068e : Cond.code yJ0_charAt_5068e cJ0_charAt_5068e 2 (some .char) ∈ tbl := in1 174 rfl rfl
theorem ok_J0_charAt_5068e : okY yJ0_charAt_5068e 1 := ⟨by decide, by decide, by decide⟩
theorem mi_J0_charAt_5068e : Cond.instanceMethod yJ0_charAt_5068e ∈ tbl := (in1 172 rfl rfl)
theorem ms_J0_charAt_5068e : Cond.selects RJ0 yJ0_charAt_5068e yJ0_charAt_5068e ∈ tbl := (in1 173 rfl rfl)
theorem mc_J0_coder_7d493 : Cond.code yJ0_coder_7d493 cJ0_coder_7d493 1 (some .byte) ∈ tbl := in1 168 rfl rfl
theorem ok_J0_coder_7d493 : okY yJ0_coder_7d493 0 := ⟨by decide, by decide, by decide⟩
theorem mi_J0_coder_7d493 : Cond.instanceMethod yJ0_coder_7d493 ∈ tbl := (in1 166 rfl rfl)
theorem ms_J0_coder_7d493 : Cond.selects RJ0 yJ0_coder_7d493 yJ0_coder_7d493 ∈ tbl := (in1 167 rfl rfl)
theorem mc_J0_isLatin1_aae02 : Cond.code yJ0_isLatin1_aae02 cJ0_isLatin1_aae02 1 (some .boolean) ∈ tbl := in1 178 rfl rfl
theorem ok_J0_isLatin1_aae02 : okY yJ0_isLatin1_aae02 0 := ⟨by decide, by decide, by decide⟩
theorem mi_J0_isLatin1_aae02 : Cond.instanceMethod yJ0_isLatin1_aae02 ∈ tbl := (in1 176 rfl rfl)
theorem ms_J0_isLatin1_aae02 : Cond.selects RJ0 yJ0_isLatin1_aae02 yJ0_isLatin1_aae02 ∈ tbl := (in1 177 rfl rfl)
theorem mc_J0_checkIndex_df160 : Cond.code yJ0_checkIndex_df160 cJ0_checkIndex_df160 2 (none) ∈ tbl := in1 184 rfl rfl
theorem ok_J0_checkIndex_df160 : okY yJ0_checkIndex_df160 2 := ⟨by decide, by decide, by decide⟩
theorem mt_J0_checkIndex_df160 : Cond.static yJ0_checkIndex_df160 ∈ tbl := (in1 183 rfl rfl)
theorem mc_J1_charAt_3b067 : Cond.code yJ1_charAt_3b067 cJ1_charAt_3b067 2 (some .char) ∈ tbl := in1 181 rfl rfl
theorem ok_J1_charAt_3b067 : okY yJ1_charAt_3b067 2 := ⟨by decide, by decide, by decide⟩
theorem mt_J1_charAt_3b067 : Cond.static yJ1_charAt_3b067 ∈ tbl := (in1 180 rfl rfl)
theorem mc_J2_getChar_3b067 : Cond.code yJ2_getChar_3b067 cJ2_getChar_3b067 2 (some .char) ∈ tbl := in1 202 rfl rfl
theorem ok_J2_getChar_3b067 : okY yJ2_getChar_3b067 2 := ⟨by decide, by decide, by decide⟩
theorem mt_J2_getChar_3b067 : Cond.static yJ2_getChar_3b067 ∈ tbl := (in1 201 rfl rfl)
theorem mc_J2_length_9d52b : Cond.code yJ2_length_9d52b cJ2_length_9d52b 1 (some .int) ∈ tbl := in1 198 rfl rfl
theorem ok_J2_length_9d52b : okY yJ2_length_9d52b 1 := ⟨by decide, by decide, by decide⟩
theorem mt_J2_length_9d52b : Cond.static yJ2_length_9d52b ∈ tbl := (in1 197 rfl rfl)
theorem mc_J2_charAt_3b067 : Cond.code yJ2_charAt_3b067 cJ2_charAt_3b067 2 (some .char) ∈ tbl := in1 192 rfl rfl
theorem ok_J2_charAt_3b067 : okY yJ2_charAt_3b067 2 := ⟨by decide, by decide, by decide⟩
theorem mt_J2_charAt_3b067 : Cond.static yJ2_charAt_3b067 ∈ tbl := (in1 191 rfl rfl)
theorem mc_J2_checkIndex_2214a : Cond.code yJ2_checkIndex_2214a cJ2_checkIndex_2214a 2 (none) ∈ tbl := in1 195 rfl rfl
theorem ok_J2_checkIndex_2214a : okY yJ2_checkIndex_2214a 2 := ⟨by decide, by decide, by decide⟩
theorem mt_J2_checkIndex_2214a : Cond.static yJ2_checkIndex_2214a ∈ tbl := (in1 194 rfl rfl)
theorem mc_J7_fill_53178 : Cond.code yJ7_fill_53178 cJ7_fill_53178 4 (none) ∈ tbl := in4 143 rfl rfl
theorem ok_J7_fill_53178 : okY yJ7_fill_53178 2 := ⟨by decide, by decide, by decide⟩
theorem mt_J7_fill_53178 : Cond.static yJ7_fill_53178 ∈ tbl := (in4 142 rfl rfl)
theorem mc_J7_copyOf_9075b : Cond.code yJ7_copyOf_9075b cJ7_copyOf_9075b 3 (some (.array .byte)) ∈ tbl := in2 92 rfl rfl
theorem ok_J7_copyOf_9075b : okY yJ7_copyOf_9075b 2 := ⟨by decide, by decide, by decide⟩
theorem mt_J7_copyOf_9075b : Cond.static yJ7_copyOf_9075b ∈ tbl := (in2 91 rfl rfl)
theorem mc_J7_copyOf_59c91 : Cond.code yJ7_copyOf_59c91 cJ7_copyOf_59c91 3 (some (.array .int)) ∈ tbl := in3 88 rfl rfl
theorem ok_J7_copyOf_59c91 : okY yJ7_copyOf_59c91 2 := ⟨by decide, by decide, by decide⟩
theorem mt_J7_copyOf_59c91 : Cond.static yJ7_copyOf_59c91 ∈ tbl := (in3 87 rfl rfl)
theorem mc_J3_checkIndex_8e157 : Cond.code yJ3_checkIndex_8e157 cJ3_checkIndex_8e157 3 (some .int) ∈ tbl := in1 189 rfl rfl
theorem ok_J3_checkIndex_8e157 : okY yJ3_checkIndex_8e157 3 := ⟨by decide, by decide, by decide⟩
theorem mt_J3_checkIndex_8e157 : Cond.static yJ3_checkIndex_8e157 ∈ tbl := (in1 188 rfl rfl)
theorem inX0 : ∀ w ∈ u_ws RX0 TX0 2, w ∈ tbl := by
  intro w hw
  exact List.mem_filter.mpr ⟨List.mem_append_right _ (by revert w; decide +kernel), by revert w; decide +kernel⟩
theorem inX1 : ∀ w ∈ u_ws RX1 TX1 16, w ∈ tbl := by
  intro w hw
  exact List.mem_filter.mpr ⟨List.mem_append_right _ (by revert w; decide +kernel), by revert w; decide +kernel⟩
theorem inX2 : ∀ w ∈ u_ws RX2 TX2 8, w ∈ tbl := by
  intro w hw
  exact List.mem_filter.mpr ⟨List.mem_append_right _ (by revert w; decide +kernel), by revert w; decide +kernel⟩
theorem inX3 : ∀ w ∈ u_ws RX3 TX3 3, w ∈ tbl := by
  intro w hw
  exact List.mem_filter.mpr ⟨List.mem_append_right _ (by revert w; decide +kernel), by revert w; decide +kernel⟩
theorem inX4 : ∀ w ∈ u_ws RX4 TX4 16, w ∈ tbl := by
  intro w hw
  exact List.mem_filter.mpr ⟨List.mem_append_right _ (by revert w; decide +kernel), by revert w; decide +kernel⟩
theorem inX5 : ∀ w ∈ u_ws RX5 TX5 19, w ∈ tbl := by
  intro w hw
  exact List.mem_filter.mpr ⟨List.mem_append_right _ (by revert w; decide +kernel), by revert w; decide +kernel⟩
theorem inX6 : ∀ w ∈ u_ws RX6 TX6 10, w ∈ tbl := by
  intro w hw
  exact List.mem_filter.mpr ⟨List.mem_append_right _ (by revert w; decide +kernel), by revert w; decide +kernel⟩
theorem inX7 : ∀ w ∈ u_ws RX7 TX7 3, w ∈ tbl := by
  intro w hw
  exact List.mem_filter.mpr ⟨List.mem_append_right _ (by revert w; decide +kernel), by revert w; decide +kernel⟩
theorem inX8 : ∀ w ∈ u_ws RX8 TX8 6, w ∈ tbl := by
  intro w hw
  exact List.mem_filter.mpr ⟨List.mem_append_right _ (by revert w; decide +kernel), by revert w; decide +kernel⟩
theorem inX9 : ∀ w ∈ u_ws RX9 TX9 5, w ∈ tbl := by
  intro w hw
  exact List.mem_filter.mpr ⟨List.mem_append_right _ (by revert w; decide +kernel), by revert w; decide +kernel⟩
theorem inX10 : ∀ w ∈ u_ws RX10 TX10 7, w ∈ tbl := by
  intro w hw
  exact List.mem_filter.mpr ⟨List.mem_append_right _ (by revert w; decide +kernel), by revert w; decide +kernel⟩
theorem inX11 : ∀ w ∈ u_ws RX11 TX11 9, w ∈ tbl := by
  intro w hw
  exact List.mem_filter.mpr ⟨List.mem_append_right _ (by revert w; decide +kernel), by revert w; decide +kernel⟩
