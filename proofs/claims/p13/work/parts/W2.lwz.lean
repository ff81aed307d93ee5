section
def wsZT0 : List Cond := (vx_at0 RX11 150 "java/lang/ArithmeticException" ["java/lang/RuntimeException", "java/lang/Exception"]).filter goodWord
theorem wgcZT : ∀ w ∈ wsZT0, goodWord w = true := zg_lit (by decide +kernel)
def woX4_init : List Cond := [.methodLink RX4 1 objectInit, .instanceMethod objectInit, .code objectInit ⟨#[0xb1]⟩ 1 none, .arrayClass .long, .fieldLink RX4 7 "StatementRules2$Names" "names" "[J", .arrayClass .int, .fieldLink RX4 13 "StatementRules2$Names" "cells" "[I", .fieldLink RX4 17 "StatementRules2$Names" "frames" "[I"]
def wzX4_init : List Cond := .code yX4_init cX4_init 1 none :: (woX4_init ++ (wsX40 ++ []))
theorem wgX4_init : ∀ w ∈ wzX4_init, goodWord w = true := zg_cons rfl (zg_app (zg_lit (by decide +kernel)) (zg_app wgcX4 zg_nil))
def woX6_init : List Cond := [.methodLink RX6 3 objectInit, .instanceMethod objectInit, .code objectInit ⟨#[0xb1]⟩ 1 none, .classLink RX6 9 RX5, .fieldLink RX6 11 "StatementRules2$Opens" "rows" "[LStatementRules2$Open;", .arrayClass .int, .fieldLink RX6 17 "StatementRules2$Opens" "jumps" "[I"]
def wzX6_init : List Cond := .code yX6_init cX6_init 1 none :: (woX6_init ++ (wsX60 ++ []))
theorem wgX6_init : ∀ w ∈ wzX6_init, goodWord w = true := zg_cons rfl (zg_app (zg_lit (by decide +kernel)) (zg_app wgcX6 zg_nil))
def woX0_init : List Cond := [.methodLink RX0 3 objectInit, .instanceMethod objectInit, .code objectInit ⟨#[0xb1]⟩ 1 none, .arrayClass .int, .fieldLink RX0 9 "StatementRules2$Code" "ops" "[I", .fieldLink RX0 15 "StatementRules2$Code" "arguments" "[I", .fieldLink RX0 18 "StatementRules2$Code" "targets" "[I", .fieldLink RX0 21 "StatementRules2$Code" "caseValues" "[I", .fieldLink RX0 24 "StatementRules2$Code" "caseTargets" "[I"]
def wzX0_init : List Cond := .code yX0_init cX0_init 1 none :: (woX0_init ++ (wsX00 ++ []))
theorem wgX0_init : ∀ w ∈ wzX0_init, goodWord w = true := zg_cons rfl (zg_app (zg_lit (by decide +kernel)) (zg_app wgcX0 zg_nil))
def woX10_init : List Cond := [.methodLink RX10 3 objectInit, .instanceMethod objectInit, .code objectInit ⟨#[0xb1]⟩ 1 none, .arrayClass .int, .fieldLink RX10 9 "StatementRules2$Told" "above" "[I", .fieldLink RX10 15 "StatementRules2$Told" "isNull" "[I", .fieldLink RX10 18 "StatementRules2$Told" "opening" "[I", .fieldLink RX10 21 "StatementRules2$Told" "closing" "[I", .fieldLink RX10 24 "StatementRules2$Told" "kindCount" "I"]
def wzX10_init : List Cond := .code yX10_init cX10_init 2 none :: (woX10_init ++ (wsX100 ++ []))
theorem wgX10_init : ∀ w ∈ wzX10_init, goodWord w = true := zg_cons rfl (zg_app (zg_lit (by decide +kernel)) (zg_app wgcX10 zg_nil))
def woX1_init : List Cond := [.methodLink RX1 3 objectInit, .instanceMethod objectInit, .code objectInit ⟨#[0xb1]⟩ 1 none, .classLink RX1 9 RX4, .instantiable RX4 4, .initialized RX4, .instanceMethod yX4_init, .fieldLink RX1 12 "StatementRules2$Formulas" "names" "LStatementRules2$Names;", .fieldLink RX1 18 "StatementRules2$Formulas" "tokens" "LStatementRules2$Tokens;", .fieldLink RX1 22 "StatementRules2$Formulas" "code" "LStatementRules2$Code;", .fieldLink RX1 26 "StatementRules2$Formulas" "told" "LStatementRules2$Told;"]
def wzX1_init : List Cond := .code yX1_init cX1_init 4 none :: (woX1_init ++ (wsX40 ++ (wsX70 ++ (wzX4_init ++ []))))
theorem wgX1_init : ∀ w ∈ wzX1_init, goodWord w = true := zg_cons rfl (zg_app (zg_lit (by decide +kernel)) (zg_app wgcX4 (zg_app wgcX7 (zg_app wgX4_init zg_nil))))
def woX7_init : List Cond := [.initialized RX1, .methodLink RX7 3 yX1_init, .instanceMethod yX1_init, .classLink RX7 9 RX6, .instantiable RX6 6, .initialized RX6, .instanceMethod yX6_init, .fieldLink RX7 14 "StatementRules2$Statements" "opens" "LStatementRules2$Opens;"]
def wzX7_init : List Cond := .code yX7_init cX7_init 4 none :: (woX7_init ++ (wsX60 ++ (wsX70 ++ (wzX1_init ++ (wzX6_init ++ [])))))
theorem wgX7_init : ∀ w ∈ wzX7_init, goodWord w = true := zg_cons rfl (zg_app (zg_lit (by decide +kernel)) (zg_app wgcX6 (zg_app wgcX7 (zg_app wgX1_init (zg_app wgX6_init zg_nil)))))
def woX3_init : List Cond := [.methodLink RX3 3 objectInit, .instanceMethod objectInit, .code objectInit ⟨#[0xb1]⟩ 1 none, .arrayClass .int, .fieldLink RX3 9 "StatementRules2$Machine" "cells" "[I", .fieldLink RX3 15 "StatementRules2$Machine" "values" "[I", .classLink RX3 18 RX2, .fieldLink RX3 20 "StatementRules2$Machine" "frames" "[LStatementRules2$Frame;", .classLink RX3 24 RX8, .fieldLink RX3 26 "StatementRules2$Machine" "pool" "[LStatementRules2$Thrown;", .fieldLink RX3 30 "StatementRules2$Machine" "opened" "[I", .fieldLink RX3 33 "StatementRules2$Machine" "rows" "[I", .fieldLink RX3 36 "StatementRules2$Machine" "told" "LStatementRules2$Told;", .fieldLink RX3 40 "StatementRules2$Machine" "code" "LStatementRules2$Code;"]
def wzX3_init : List Cond := .code yX3_init cX3_init 3 none :: (woX3_init ++ (wsX30 ++ []))
theorem wgX3_init : ∀ w ∈ wzX3_init, goodWord w = true := zg_cons rfl (zg_app (zg_lit (by decide +kernel)) (zg_app wgcX3 zg_nil))
def woX12_init : List Cond := [.methodLink RX12 1 objectInit, .instanceMethod objectInit, .code objectInit ⟨#[0xb1]⟩ 1 none, .arrayClass .int, .fieldLink RX12 7 "StatementRules2Model" "tape" "[I", .fieldLink RX12 13 "StatementRules2Model" "kinds" "I", .fieldLink RX12 17 "StatementRules2Model" "above" "[I", .arrayClass .boolean, .fieldLink RX12 20 "StatementRules2Model" "isNull" "[Z", .fieldLink RX12 24 "StatementRules2Model" "opening" "[I", .fieldLink RX12 27 "StatementRules2Model" "closing" "[I", .arrayClass .long, .constantLong RX12 30 (6909556), .constantLong RX12 32 (7758194), .constantLong RX12 34 (7106407), .constantLong RX12 36 (26982), .constantLong RX12 38 (1701606245), .constantLong RX12 40 (512852847717), .constantLong RX12 42 (25711), .constantLong RX12 44 (6713202), .constantLong RX12 46 (422826041707), .constantLong RX12 48 (7165066978433856869), .constantLong RX12 50 (125780071117422), .constantLong RX12 52 (499968536439), .constantLong RX12 54 (1819239275), .constantLong RX12 56 (7631481), .constantLong RX12 58 (2003399784), .constantLong RX12 60 (426836779880), .constantLong RX12 62 (28826370426301561), .constantLong RX12 64 (107148485161588), .constantLong RX12 66 (126956707537768), .constantLong RX12 68 (1667330917), .constantLong RX12 70 (28258988067220596), .constantLong RX12 72 (521459297380), .constantLong RX12 74 (1953658213), .constantLong RX12 76 (439721161573), .constantLong RX12 78 (1853189228), .fieldLink RX12 80 "StatementRules2Model" "words" "[J", .fieldLink RX12 84 "StatementRules2Model" "op" "[I", .fieldLink RX12 87 "StatementRules2Model" "ix" "[I", .fieldLink RX12 90 "StatementRules2Model" "iy" "[I", .fieldLink RX12 93 "StatementRules2Model" "entryValue" "[I", .fieldLink RX12 96 "StatementRules2Model" "entryAt" "[I", .fieldLink RX12 99 "StatementRules2Model" "entryNext" "[I", .fieldLink RX12 102 "StatementRules2Model" "entryElse" "[Z", .fieldLink RX12 105 "StatementRules2Model" "tryCatch" "[I", .fieldLink RX12 108 "StatementRules2Model" "tryFinal" "[I", .fieldLink RX12 111 "StatementRules2Model" "tryEnd" "[I", .fieldLink RX12 114 "StatementRules2Model" "catchKind" "[I", .fieldLink RX12 117 "StatementRules2Model" "catchAt" "[I", .fieldLink RX12 120 "StatementRules2Model" "catchSlot" "[I", .fieldLink RX12 123 "StatementRules2Model" "catchNext" "[I", .fieldLink RX12 126 "StatementRules2Model" "seenName" "[J", .fieldLink RX12 129 "StatementRules2Model" "seenSlot" "[I", .fieldLink RX12 132 "StatementRules2Model" "seenCaught" "[Z", .fieldLink RX12 135 "StatementRules2Model" "goalSort" "[I", .fieldLink RX12 138 "StatementRules2Model" "goalName" "[J", .fieldLink RX12 141 "StatementRules2Model" "goalLoop" "[I", .fieldLink RX12 144 "StatementRules2Model" "goalDepth" "[I", .fieldLink RX12 147 "StatementRules2Model" "breaks" "[I", .fieldLink RX12 150 "StatementRules2Model" "continues" "[I", .fieldLink RX12 153 "StatementRules2Model" "broken" "[Z", .fieldLink RX12 156 "StatementRules2Model" "continued" "[Z", .fieldLink RX12 159 "StatementRules2Model" "wallTry" "[I", .fieldLink RX12 162 "StatementRules2Model" "wallGoals" "[I", .fieldLink RX12 165 "StatementRules2Model" "pendGoal" "[I", .fieldLink RX12 168 "StatementRules2Model" "pendBreak" "[Z", .fieldLink RX12 171 "StatementRules2Model" "pendTry" "[I", .fieldLink RX12 174 "StatementRules2Model" "fk" "[I", .fieldLink RX12 177 "StatementRules2Model" "fs" "[I", .fieldLink RX12 180 "StatementRules2Model" "fp" "[I", .fieldLink RX12 183 "StatementRules2Model" "fq" "[I", .fieldLink RX12 186 "StatementRules2Model" "fr" "[I", .fieldLink RX12 189 "StatementRules2Model" "fv" "[I", .fieldLink RX12 192 "StatementRules2Model" "fw" "[I", .fieldLink RX12 195 "StatementRules2Model" "fx" "[I", .fieldLink RX12 198 "StatementRules2Model" "fy" "[I", .fieldLink RX12 201 "StatementRules2Model" "fz" "[I", .fieldLink RX12 204 "StatementRules2Model" "fn" "[J", .fieldLink RX12 207 "StatementRules2Model" "rowSort" "[I", .fieldLink RX12 210 "StatementRules2Model" "rowNumber" "[I", .fieldLink RX12 213 "StatementRules2Model" "vals" "[I", .fieldLink RX12 216 "StatementRules2Model" "thingKind" "[I", .fieldLink RX12 219 "StatementRules2Model" "thingNumber" "[I", .fieldLink RX12 222 "StatementRules2Model" "suppressedMany" "[I", .fieldLink RX12 225 "StatementRules2Model" "suppressedKind" "[I", .fieldLink RX12 228 "StatementRules2Model" "suppressedNumber" "[I", .fieldLink RX12 231 "StatementRules2Model" "held" "[I", .fieldLink RX12 234 "StatementRules2Model" "vs" "[I", .fieldLink RX12 237 "StatementRules2Model" "openOf" "[I", .fieldLink RX12 240 "StatementRules2Model" "waits" "[I", .fieldLink RX12 243 "StatementRules2Model" "rk" "[I", .fieldLink RX12 246 "StatementRules2Model" "ra" "[I", .fieldLink RX12 249 "StatementRules2Model" "rb" "[I", .fieldLink RX12 252 "StatementRules2Model" "rc" "[I", .fieldLink RX12 255 "StatementRules2Model" "rHigh" "[I", .fieldLink RX12 258 "StatementRules2Model" "rHow" "[I", .fieldLink RX12 261 "StatementRules2Model" "rTo" "[I", .fieldLink RX12 264 "StatementRules2Model" "rDepth" "[I", .fieldLink RX12 267 "StatementRules2Model" "rValue" "[I", .fieldLink RX12 270 "StatementRules2Model" "rThing" "[I"]
def wzX12_init : List Cond := .code yX12_init cX12_init 1 none :: (woX12_init ++ (wsX120 ++ []))
theorem wgX12_init : ∀ w ∈ wzX12_init, goodWord w = true := zg_cons rfl (zg_app (zg_lit (by decide +kernel)) (zg_app wgcX12 zg_nil))
def woJ0_coder_7d493 : List Cond := [.fieldLink RJ0 38 "java/lang/String" "COMPACT_STRINGS" "Z", .fieldLink RJ0 15 "java/lang/String" "coder" "B"]
def wzJ0_coder_7d493 : List Cond := .code yJ0_coder_7d493 cJ0_coder_7d493 1 (some .byte) :: (woJ0_coder_7d493 ++ [])
theorem wgJ0_coder_7d493 : ∀ w ∈ wzJ0_coder_7d493, goodWord w = true := zg_cons rfl (zg_app (zg_lit (by decide +kernel)) zg_nil)
def woJ0_length_8abf5 : List Cond := [.fieldLink RJ0 9 "java/lang/String" "value" "[B", .methodLink RJ0 335 yJ0_coder_7d493, .instanceMethod yJ0_coder_7d493, .selects RJ0 yJ0_coder_7d493 yJ0_coder_7d493, .initialized RJ0]
def wzJ0_length_8abf5 : List Cond := .code yJ0_length_8abf5 cJ0_length_8abf5 1 (some .int) :: (woJ0_length_8abf5 ++ (wzJ0_coder_7d493 ++ []))
theorem wgJ0_length_8abf5 : ∀ w ∈ wzJ0_length_8abf5, goodWord w = true := zg_cons rfl (zg_app (zg_lit (by decide +kernel)) (zg_app wgJ0_coder_7d493 zg_nil))
def woJ0_isLatin1_aae02 : List Cond := [.fieldLink RJ0 38 "java/lang/String" "COMPACT_STRINGS" "Z", .fieldLink RJ0 15 "java/lang/String" "coder" "B"]
def wzJ0_isLatin1_aae02 : List Cond := .code yJ0_isLatin1_aae02 cJ0_isLatin1_aae02 1 (some .boolean) :: (woJ0_isLatin1_aae02 ++ [])
theorem wgJ0_isLatin1_aae02 : ∀ w ∈ wzJ0_isLatin1_aae02, goodWord w = true := zg_cons rfl (zg_app (zg_lit (by decide +kernel)) zg_nil)
def woJ3_checkIndex_8e157 : List Cond := []
def wzJ3_checkIndex_8e157 : List Cond := .code yJ3_checkIndex_8e157 cJ3_checkIndex_8e157 3 (some .int) :: (woJ3_checkIndex_8e157 ++ [])
theorem wgJ3_checkIndex_8e157 : ∀ w ∈ wzJ3_checkIndex_8e157, goodWord w = true := zg_cons rfl (zg_app (zg_lit (by decide +kernel)) zg_nil)
def woJ0_checkIndex_df160 : List Cond := [.fieldLink RJ0 1053 "jdk/internal/util/Preconditions" "SIOOBE_FORMATTER" "Ljava/util/function/BiFunction;", .methodLink RJ0 1059 yJ3_checkIndex_8e157, .static yJ3_checkIndex_8e157, .initialized RJ3]
def wzJ0_checkIndex_df160 : List Cond := .code yJ0_checkIndex_df160 cJ0_checkIndex_df160 2 none :: (woJ0_checkIndex_df160 ++ (wzJ3_checkIndex_8e157 ++ []))
theorem wgJ0_checkIndex_df160 : ∀ w ∈ wzJ0_checkIndex_df160, goodWord w = true := zg_cons rfl (zg_app (zg_lit (by decide +kernel)) (zg_app wgJ3_checkIndex_8e157 zg_nil))
def woJ1_charAt_3b067 : List Cond := [.methodLink RJ1 9 yJ0_checkIndex_df160, .static yJ0_checkIndex_df160, .initialized RJ0]
def wzJ1_charAt_3b067 : List Cond := .code yJ1_charAt_3b067 cJ1_charAt_3b067 2 (some .char) :: (woJ1_charAt_3b067 ++ (wzJ0_checkIndex_df160 ++ []))
theorem wgJ1_charAt_3b067 : ∀ w ∈ wzJ1_charAt_3b067, goodWord w = true := zg_cons rfl (zg_app (zg_lit (by decide +kernel)) (zg_app wgJ0_checkIndex_df160 zg_nil))
def woJ0_charAt_5068e : List Cond := [.fieldLink RJ0 9 "java/lang/String" "value" "[B", .methodLink RJ0 492 yJ0_isLatin1_aae02, .instanceMethod yJ0_isLatin1_aae02, .selects RJ0 yJ0_isLatin1_aae02 yJ0_isLatin1_aae02, .initialized RJ0, .methodLink RJ0 495 yJ1_charAt_3b067, .static yJ1_charAt_3b067, .initialized RJ1]
def wzJ0_charAt_5068e : List Cond := .code yJ0_charAt_5068e cJ0_charAt_5068e 2 (some .char) :: (woJ0_charAt_5068e ++ (wzJ0_isLatin1_aae02 ++ (wzJ1_charAt_3b067 ++ [])))
theorem wgJ0_charAt_5068e : ∀ w ∈ wzJ0_charAt_5068e, goodWord w = true := zg_cons rfl (zg_app (zg_lit (by decide +kernel)) (zg_app wgJ0_isLatin1_aae02 (zg_app wgJ1_charAt_3b067 zg_nil)))
def woX9_init : List Cond := [.fieldLink RX9 9 "StatementRules2$Tokens" "words" "[J", .methodLink RX9 3 objectInit, .instanceMethod objectInit, .code objectInit ⟨#[0xb1]⟩ 1 none, .arrayClass .long, .fieldLink RX9 15 "StatementRules2$Tokens" "tape" "[I", .methodLink RX9 21 yJ0_length_8abf5, .instanceMethod yJ0_length_8abf5, .selects RJ0 yJ0_length_8abf5 yJ0_length_8abf5, .initialized RJ0, .methodLink RX9 27 yJ0_charAt_5068e, .instanceMethod yJ0_charAt_5068e, .selects RJ0 yJ0_charAt_5068e yJ0_charAt_5068e]
def wzX9_init : List Cond := .code yX9_init cX9_init 4 none :: (woX9_init ++ (wsX90 ++ (wzJ0_length_8abf5 ++ (wzJ0_charAt_5068e ++ []))))
theorem wgX9_init : ∀ w ∈ wzX9_init, goodWord w = true := zg_cons rfl (zg_app (zg_lit (by decide +kernel)) (zg_app wgcX9 (zg_app wgJ0_length_8abf5 (zg_app wgJ0_charAt_5068e zg_nil))))
def woX11_init : List Cond := [.methodLink RX11 1 objectInit, .instanceMethod objectInit, .code objectInit ⟨#[0xb1]⟩ 1 none, .arrayClass .int, .fieldLink RX11 9 "StatementRules2" "tape" "[I", .classLink RX11 13 RX10, .instantiable RX10 6, .initialized RX10, .methodLink RX11 15 yX10_init, .instanceMethod yX10_init, .fieldLink RX11 16 "StatementRules2" "told" "LStatementRules2$Told;", .classLink RX11 20 RX0, .instantiable RX0 13, .initialized RX0, .instanceMethod yX0_init, .fieldLink RX11 23 "StatementRules2" "code" "LStatementRules2$Code;", .classLink RX11 27 RX7, .instantiable RX7 11, .initialized RX7, .classLink RX11 29 RX9, .instantiable RX9 8, .initialized RX9, .methodLink RX11 31 yX9_init, .instanceMethod yX9_init, .methodLink RX11 34 yX7_init, .instanceMethod yX7_init, .fieldLink RX11 37 "StatementRules2" "reader" "LStatementRules2$Statements;", .classLink RX11 41 RX3, .instantiable RX3 20, .initialized RX3, .methodLink RX11 43 yX3_init, .instanceMethod yX3_init, .fieldLink RX11 46 "StatementRules2" "machine" "LStatementRules2$Machine;"]
def wzX11_init : List Cond := .code yX11_init cX11_init 1 none :: (woX11_init ++ (wsX110 ++ (wsX100 ++ (wsX00 ++ (wsX70 ++ (wsX90 ++ (wsX30 ++ (wzX10_init ++ (wzX0_init ++ (wzX9_init ++ (wzX7_init ++ (wzX3_init ++ []))))))))))))
theorem wgX11_init : ∀ w ∈ wzX11_init, goodWord w = true := zg_cons rfl (zg_app (zg_lit (by decide +kernel)) (zg_app wgcX11 (zg_app wgcX10 (zg_app wgcX0 (zg_app wgcX7 (zg_app wgcX9 (zg_app wgcX3 (zg_app wgX10_init (zg_app wgX0_init (zg_app wgX9_init (zg_app wgX7_init (zg_app wgX3_init zg_nil))))))))))))
def woX11_rounds : List Cond := [.classLink RX11 148 "java/lang/ArithmeticException", .initialized "java/lang/ArithmeticException"]
def wzX11_rounds : List Cond := .code yX11_rounds cX11_rounds 3 (some .int) :: (woX11_rounds ++ (wsZT0 ++ []))
theorem wgX11_rounds : ∀ w ∈ wzX11_rounds, goodWord w = true := zg_cons rfl (zg_app (zg_lit (by decide +kernel)) (zg_app wgcZT zg_nil))
def woL_rounds : List Cond := [.classLink RL 13 "java/lang/ArithmeticException", .methodLink RL 7 yX11_rounds, .instanceMethod yX11_rounds, .selects RX11 yX11_rounds yX11_rounds, .initialized RX11]
def wzL_rounds : List Cond := .codeWith yL_rounds cL_rounds 5 (some .int) [(0, 10, 13, 13)] :: (woL_rounds ++ (wzX11_rounds ++ []))
theorem wgL_rounds : ∀ w ∈ wzL_rounds, goodWord w = true := zg_cons rfl (zg_app (zg_lit (by decide +kernel)) (zg_app wgX11_rounds zg_nil))
theorem hX1_init_X4_init_n11 : GoodIn wzX1_init wzX4_init := (zg_of (fun _ h => List.mem_cons_of_mem _ (List.mem_append_right _ (List.mem_append_right _ (List.mem_append_right _ (List.mem_append_left _ (h)))))) wgX4_init)
theorem hX7_init_X1_init_i3 : GoodIn wzX7_init wzX1_init := (zg_of (fun _ h => List.mem_cons_of_mem _ (List.mem_append_right _ (List.mem_append_right _ (List.mem_append_right _ (List.mem_append_left _ (h)))))) wgX1_init)
theorem hX7_init_X6_init_n11 : GoodIn wzX7_init wzX6_init := (zg_of (fun _ h => List.mem_cons_of_mem _ (List.mem_append_right _ (List.mem_append_right _ (List.mem_append_right _ (List.mem_append_right _ (List.mem_append_left _ (h))))))) wgX6_init)
set_option maxRecDepth 20000 in
theorem hJ0_length_8abf5_J0_coder_7d493_v335 : GoodIn wzJ0_length_8abf5 (wsV RJ0 335 RJ0 yJ0_coder_7d493 wzJ0_coder_7d493) := goodIn_app (goodIn_r _ [2, 3, 4, 5] rfl (by decide +kernel)) (zg_of (fun _ h => List.mem_cons_of_mem _ (List.mem_append_right _ (List.mem_append_left _ (h)))) wgJ0_coder_7d493)
set_option maxRecDepth 20000 in
theorem hJ0_checkIndex_df160_J3_checkIndex_8e157_s1059 : GoodIn wzJ0_checkIndex_df160 (va_wsS RJ0 1059 yJ3_checkIndex_8e157 wzJ3_checkIndex_8e157) := goodIn_app (goodIn_r _ [2, 3, 4] rfl (by decide +kernel)) (zg_of (fun _ h => List.mem_cons_of_mem _ (List.mem_append_right _ (List.mem_append_left _ (h)))) wgJ3_checkIndex_8e157)
set_option maxRecDepth 20000 in
theorem hJ1_charAt_3b067_J0_checkIndex_df160_s9 : GoodIn wzJ1_charAt_3b067 (va_wsS RJ1 9 yJ0_checkIndex_df160 wzJ0_checkIndex_df160) := goodIn_app (goodIn_r _ [1, 2, 3] rfl (by decide +kernel)) (zg_of (fun _ h => List.mem_cons_of_mem _ (List.mem_append_right _ (List.mem_append_left _ (h)))) wgJ0_checkIndex_df160)
set_option maxRecDepth 20000 in
theorem hJ0_charAt_5068e_J0_isLatin1_aae02_v492 : GoodIn wzJ0_charAt_5068e (wsV RJ0 492 RJ0 yJ0_isLatin1_aae02 wzJ0_isLatin1_aae02) := goodIn_app (goodIn_r _ [2, 3, 4, 5] rfl (by decide +kernel)) (zg_of (fun _ h => List.mem_cons_of_mem _ (List.mem_append_right _ (List.mem_append_left _ (h)))) wgJ0_isLatin1_aae02)
set_option maxRecDepth 20000 in
theorem hJ0_charAt_5068e_J1_charAt_3b067_s495 : GoodIn wzJ0_charAt_5068e (va_wsS RJ0 495 yJ1_charAt_3b067 wzJ1_charAt_3b067) := goodIn_app (goodIn_r _ [6, 7, 8] rfl (by decide +kernel)) (zg_of (fun _ h => List.mem_cons_of_mem _ (List.mem_append_right _ (List.mem_append_right _ (List.mem_append_left _ (h))))) wgJ1_charAt_3b067)
set_option maxRecDepth 20000 in
theorem hX9_init_J0_length_8abf5_v21 : GoodIn wzX9_init (wsV RX9 21 RJ0 yJ0_length_8abf5 wzJ0_length_8abf5) := goodIn_app (goodIn_r _ [7, 8, 9, 10] rfl (by decide +kernel)) (zg_of (fun _ h => List.mem_cons_of_mem _ (List.mem_append_right _ (List.mem_append_right _ (List.mem_append_left _ (h))))) wgJ0_length_8abf5)
set_option maxRecDepth 20000 in
theorem hX9_init_J0_charAt_5068e_v27 : GoodIn wzX9_init (wsV RX9 27 RJ0 yJ0_charAt_5068e wzJ0_charAt_5068e) := goodIn_app (goodIn_r _ [11, 12, 13, 10] rfl (by decide +kernel)) (zg_of (fun _ h => List.mem_cons_of_mem _ (List.mem_append_right _ (List.mem_append_right _ (List.mem_append_right _ (List.mem_append_left _ (h)))))) wgJ0_charAt_5068e)
theorem hX11_init_X10_init_i15 : GoodIn wzX11_init wzX10_init := (zg_of (fun _ h => List.mem_cons_of_mem _ (List.mem_append_right _ (List.mem_append_right _ (List.mem_append_right _ (List.mem_append_right _ (List.mem_append_right _ (List.mem_append_right _ (List.mem_append_right _ (List.mem_append_left _ (h)))))))))) wgX10_init)
theorem hX11_init_X0_init_n22 : GoodIn wzX11_init wzX0_init := (zg_of (fun _ h => List.mem_cons_of_mem _ (List.mem_append_right _ (List.mem_append_right _ (List.mem_append_right _ (List.mem_append_right _ (List.mem_append_right _ (List.mem_append_right _ (List.mem_append_right _ (List.mem_append_right _ (List.mem_append_left _ (h))))))))))) wgX0_init)
theorem hX11_init_X9_init_i31 : GoodIn wzX11_init wzX9_init := (zg_of (fun _ h => List.mem_cons_of_mem _ (List.mem_append_right _ (List.mem_append_right _ (List.mem_append_right _ (List.mem_append_right _ (List.mem_append_right _ (List.mem_append_right _ (List.mem_append_right _ (List.mem_append_right _ (List.mem_append_right _ (List.mem_append_left _ (h)))))))))))) wgX9_init)
theorem hX11_init_X7_init_i34 : GoodIn wzX11_init wzX7_init := (zg_of (fun _ h => List.mem_cons_of_mem _ (List.mem_append_right _ (List.mem_append_right _ (List.mem_append_right _ (List.mem_append_right _ (List.mem_append_right _ (List.mem_append_right _ (List.mem_append_right _ (List.mem_append_right _ (List.mem_append_right _ (List.mem_append_right _ (List.mem_append_left _ (h))))))))))))) wgX7_init)
theorem hX11_init_X3_init_i43 : GoodIn wzX11_init wzX3_init := (zg_of (fun _ h => List.mem_cons_of_mem _ (List.mem_append_right _ (List.mem_append_right _ (List.mem_append_right _ (List.mem_append_right _ (List.mem_append_right _ (List.mem_append_right _ (List.mem_append_right _ (List.mem_append_right _ (List.mem_append_right _ (List.mem_append_right _ (List.mem_append_right _ (List.mem_append_left _ (h)))))))))))))) wgX3_init)
set_option maxRecDepth 20000 in
theorem hL_rounds_X11_rounds_v7 : GoodIn wzL_rounds (wsV RL 7 RX11 yX11_rounds wzX11_rounds) := goodIn_app (goodIn_r _ [2, 3, 4, 5] rfl (by decide +kernel)) (zg_of (fun _ h => List.mem_cons_of_mem _ (List.mem_append_right _ (List.mem_append_left _ (h)))) wgX11_rounds)
end
section
theorem z_newi (n : Nat) : ∀ cA : ClassId, vp_cell cA (n, .inl (fun _ => 0)) = arrV cA n (fun _ => defaultValue .int) := fun cA => vp_cell_i cA n _
theorem z_newz (n : Nat) : ∀ cA : ClassId, vp_cell cA (n, .inl (fun _ => 0)) = arrV cA n (fun _ => defaultValue .boolean) := fun cA => vp_cell_i cA n _
theorem z_newl (n : Nat) : ∀ cA : ClassId, vp_cell cA (n, .inr (.inl (fun _ => 0))) = arrV cA n (fun _ => defaultValue .long) := fun cA => vp_cell_l cA n _
theorem va_P.mm {D : va_G} {cl : List vw_C} {ws ws' : va_W} {H : Heap} (h : va_P D cl ws H) (hm : ∀ q ∈ ws', q ∈ ws) : va_P D cl ws' H := by
  intro k q hk
  obtain ⟨j, hj⟩ := List.mem_iff_getElem?.mp (hm q (List.mem_of_getElem? hk))
  exact h j q hj
theorem va_D.nd {A : Nat → Prop} {ws : va_W} (h : va_D A ws) : (ws.map Prod.fst).Nodup ∧ ∀ q ∈ ws, A q.1 := by
  refine ⟨List.pairwise_iff_getElem.mpr (fun i j hi hj hij e => ?_), fun q hq => ?_⟩
  · rw [List.length_map] at hi hj
    rw [List.getElem_map, List.getElem_map] at e
    have := h.1 i j _ _ (List.getElem?_eq_getElem hi) (List.getElem?_eq_getElem hj) e
    omega
  · obtain ⟨j, hj⟩ := List.mem_iff_getElem?.mp hq
    exact h.2 j q hj
theorem va_D.of {A : Nat → Prop} {ws : va_W} (h1 : (ws.map Prod.fst).Nodup) (h2 : ∀ q ∈ ws, A q.1) : va_D A ws := by
  refine ⟨fun i j p q hp hq e => ?_, fun k q hk => h2 q (List.mem_of_getElem? hk)⟩
  have li : i < (ws.map Prod.fst).length := by
    rw [List.length_map]
    exact (List.getElem?_eq_some_iff.mp hp).1
  refine (List.getElem?_inj li h1).mp ?_
  rw [List.getElem?_map, List.getElem?_map, hp, hq]
  show some p.1 = some q.1
  rw [e]
theorem va_D.pm {A : Nat → Prop} {ws ws' : va_W} (h : va_D A ws) (p : ws.Perm ws') : va_D A ws' := by
  obtain ⟨h1, h2⟩ := h.nd
  exact va_D.of ((p.map Prod.fst).nodup_iff.mp h1) (fun q hq => h2 q (p.mem_iff.mpr hq))
theorem va_P.pm {D : va_G} {cl : List vw_C} {ws ws' : va_W} {H : Heap} (h : va_P D cl ws H) (p : ws.Perm ws') : va_P D cl ws' H := h.mm (fun _ hq => p.mem_iff.mpr hq)
theorem va_P.fr {D : va_G} {cl : List vw_C} {o x : Nat × va_E} {ws : va_W} {H : Heap} (h : va_P D cl (o :: (ws ++ [x])) H) : va_P D cl (o :: (x :: ws)) H := h.pm (List.Perm.cons _ List.perm_append_comm)
theorem va_D.fr {A : Nat → Prop} {o x : Nat × va_E} {ws : va_W} (h : va_D A (o :: (ws ++ [x]))) : va_D A (o :: (x :: ws)) := h.pm (List.Perm.cons _ List.perm_append_comm)
theorem va_P.rv {D : va_G} {cl : List vw_C} {o : Nat × va_E} {ws : va_W} {H : Heap} (h : va_P D cl (o :: ws) H) : va_P D cl (o :: ws.reverse) H := h.pm (List.Perm.cons _ (List.reverse_perm ws).symm)
theorem va_D.rv {A : Nat → Prop} {o : Nat × va_E} {ws : va_W} (h : va_D A (o :: ws)) : va_D A (o :: ws.reverse) := h.pm (List.Perm.cons _ (List.reverse_perm ws).symm)
theorem va_RA.uq {U : State} {c1 c2 : ClassId} {ty : FieldType} (h1 : va_RA U c1 ty) (h2 : va_RA U c2 ty) : c1 = c2 := by
  cases ty with
  | object C =>
    obtain ⟨_, _, _, _, _, e1⟩ := h1
    obtain ⟨_, _, _, _, _, e2⟩ := h2
    exact Option.some.inj (e1.symm.trans e2)
  | _ => exact Option.some.inj ((show _ = some c1 from h1).symm.trans (show _ = some c2 from h2))
theorem kuq {D : va_G} {cl : List vw_C} {tys : List (ClassId × FieldType)} {c c0 : ClassId} {ty : FieldType} {s : State} (h1 : va_K D cl (tys ++ [(c, ty)]) s) (h2 : va_K D cl tys s) {k : Nat} (hk : tys[k]? = some (c0, ty)) : c = c0 := by
  have a := (h1.2 tys.length (c, ty) (by simp)).2
  exact va_RA.uq a (h2.2 k _ hk).2
theorem kuq2 {D : va_G} {cl : List vw_C} {tys : List (ClassId × FieldType)} {c c0 : ClassId} {ty : FieldType} {s : State} (h : va_K D cl tys s) (j k : Nat) (hj : tys[j]? = some (c, ty)) (hk : tys[k]? = some (c0, ty)) : c = c0 := va_RA.uq (h.2 j _ hj).2 (h.2 k _ hk).2
theorem k_X4_init_methodLink_RX4_1_objectInit : Cond.methodLink RX4 1 objectInit ∈ wzX4_init := List.mem_cons_of_mem _ (List.mem_append_left _ (List.mem_of_getElem? (i := 0) rfl))
theorem k_X4_init_instanceMethod_objectInit : Cond.instanceMethod objectInit ∈ wzX4_init := List.mem_cons_of_mem _ (List.mem_append_left _ (List.mem_of_getElem? (i := 1) rfl))
theorem k_X4_init_code_objectInit_0xb1_1_none : Cond.code objectInit ⟨#[0xb1]⟩ 1 none ∈ wzX4_init := List.mem_cons_of_mem _ (List.mem_append_left _ (List.mem_of_getElem? (i := 2) rfl))
theorem k_X4_init_arrayClass_long : Cond.arrayClass .long ∈ wzX4_init := List.mem_cons_of_mem _ (List.mem_append_left _ (List.mem_of_getElem? (i := 3) rfl))
theorem k_X4_init_fieldLink_RX4_7_SR_Names_names_J : Cond.fieldLink RX4 7 "StatementRules2$Names" "names" "[J" ∈ wzX4_init := List.mem_cons_of_mem _ (List.mem_append_left _ (List.mem_of_getElem? (i := 4) rfl))
theorem i_X4_init_X4 : ∀ w ∈ wsX40, w ∈ wzX4_init := fun _ h => List.mem_cons_of_mem _ (List.mem_append_right _ (List.mem_append_left _ (h)))
theorem k_X4_init_arrayClass_int : Cond.arrayClass .int ∈ wzX4_init := List.mem_cons_of_mem _ (List.mem_append_left _ (List.mem_of_getElem? (i := 5) rfl))
theorem k_X4_init_fieldLink_RX4_13_SR_Names_cells_I : Cond.fieldLink RX4 13 "StatementRules2$Names" "cells" "[I" ∈ wzX4_init := List.mem_cons_of_mem _ (List.mem_append_left _ (List.mem_of_getElem? (i := 6) rfl))
theorem k_X4_init_fieldLink_RX4_17_SR_Names_frames_I : Cond.fieldLink RX4 17 "StatementRules2$Names" "frames" "[I" ∈ wzX4_init := List.mem_cons_of_mem _ (List.mem_append_left _ (List.mem_of_getElem? (i := 7) rfl))
set_option maxHeartbeats 4000000 in
set_option maxRecDepth 100000 in
theorem c_X4_init (l : Launch) (dC : Nat → ClassId) (dI : Nat → Nat → Nat) (sz : Nat) (h0 : Nat) : Met l yX4_init wzX4_init ({ frames := 1, cells := 3, slots := 384, locals := 60 }) (va_Pc [.ref h0] (zPre dC dI sz [(h0, .inr (3, [.null, .null, .null, .int 0]))] [])) (va_Qv (fun (_ : Unit) => True) (fun (_ : Unit) (t : State) => ∃ (qn : Nat), ∃ (kn : ClassId), ∃ (qc : Nat), ∃ (kc : ClassId), ∃ (qf : Nat), ∃ (kf : ClassId), zPost dC dI (va_A [(h0, .inr (3, [.null, .null, .null, .int 0]))] sz) [(h0, .inr (3, [.ref qn, .ref qc, .ref qf, .int 0])), (qn, .inl (kn, 128, .inr (.inl (fun _ => 0)))), (qc, .inl (kc, 128, .inl (fun _ => 0))), (qf, .inl (kf, 128, .inl (fun _ => 0)))] [(kn, .long), (kc, .int), (kf, .int)] t) (va_A [(h0, .inr (3, [.null, .null, .null, .int 0]))] sz)) 3 384 (va_A [(h0, .inr (3, [.null, .null, .null, .int 0]))] sz) := by
  refine Met.ofW (cc := cX4_init) (maxL := 1) (ret := none) (by decide) rfl ?_
  intro p e s m args below meth c s₁ B hml hv
  obtain ⟨rfl, hsz, hZ, hP, hK, hD0⟩ := hv
  have hx := B.exec
  have hb := B.bytes
  have hr := B.returns
  have hts := atoms_spec (ws := wzX4_init) B.pre
  have hown : s.vm.findClass RX4 = some m.cls := findClass_of_methodNamed B.named
  have hlocks := B.notSynchronized
  have hin : meth.name = "<init>" := (name_of_methodNamed B.named B.method).1
  subst hsz
  have hD := hD0.self (sz := s.heap.size)
  generalize hAe : va_A [(h0, .inr (3, [.null, .null, .null, .int 0]))] s.heap.size = A at hD ⊢
  have hA : ∀ q : Nat, s.heap.size ≤ q → A q := fun q h => by rw [← hAe]; exact Or.inr h
  have hS : va_S A s.heap s.heap [] := va_S.rf
  have hP : va_P (dC, dI) vwCl [(h0, .inr (3, [.null, .null, .null, .int 0]))] s.heap := hP
  have hl := lv_entry ([.ref h0]) (n := 1) (Nat.le_of_ble_eq_true rfl)
  rw [lg_entry_eq]
  generalize (lg_sl ([.ref h0]) ++ List.replicate (1 - (lg_sl ([.ref h0])).length) Slot.unset).toArray = ls at hl ⊢
  have hl : lv_has ls 1 [(0, .ref h0)] := hl
  refine lv_aload_n hx hb dX4_init_0 rfl (lv_at hl 0 rfl) ?_
  refine W.objInit hx hb hown (hts (.methodLink RX4 1 objectInit) k_X4_init_methodLink_RX4_1_objectInit) (hts (.instanceMethod objectInit) k_X4_init_instanceMethod_objectInit) (hts (.code objectInit ⟨#[0xb1]⟩ 1 none) k_X4_init_code_objectInit_0xb1_1_none) rfl (by rw [hml]; exact hl.1) rfl dX4_init_1 (Nat.le_of_ble_eq_true rfl) (Nat.le_of_ble_eq_true rfl) ?_
  refine W.eq (g2 := F0 m 4 ls []) rfl ?_
  refine lv_aload_n hx hb dX4_init_4 rfl (lv_at hl 0 rfl) ?_
  refine lv_sipush (v := 128) hx hb dX4_init_5 (by decide) ?_
  refine va_newa (atype := .long) (ty := .long) (N' := 128) (a0 := (128, .inr (.inl (fun _ => 0)))) hx hb (hts (.arrayClass .long) k_X4_init_arrayClass_long) rfl hK hP hD hS hA (z_newl 128) (by decide) (by decide) (by decide) (Nat.le_of_ble_eq_true rfl) (Nat.le_of_ble_eq_true rfl) dX4_init_8 (fun q1 kq1 H hK hP hD hS => ?_)
  refine W.widen (k := 1) (n := 128) (by omega) (by omega) ?_
  have hP : va_P (dC, dI) vwCl [(h0, .inr (3, [.null, .null, .null, .int 0])), (q1, .inl (kq1, 128, .inr (.inl (fun _ => 0))))] H := hP
  have hD : va_D A [(h0, .inr (3, [.null, .null, .null, .int 0])), (q1, .inl (kq1, 128, .inr (.inl (fun _ => 0))))] := hD
  have hK : va_K (dC, dI) vwCl [(kq1, .long)] s := hK
  refine va_putF (D := (dC, dI)) (ci := 3) (v := .ref q1) (ty := (.array .long)) (C := RX4) (T := TX4) (N := 4) hx hb hts i_X4_init_X4 tyX4 tyX4_ok nmX4 hown hK hP hD hS 0 rfl rfl 0 (by decide) (hts (.fieldLink RX4 7 "StatementRules2$Names" "names" "[J") k_X4_init_fieldLink_RX4_7_SR_Names_names_J) (fun _ h9 => h9) rfl hin rfl (by decide +kernel) rfl rfl (Nat.le_of_ble_eq_true rfl) dX4_init_10 (fun H locs hP hD hS => ?_)
  have hP : va_P (dC, dI) vwCl [(h0, .inr (3, [.ref q1, .null, .null, .int 0])), (q1, .inl (kq1, 128, .inr (.inl (fun _ => 0))))] H := hP
  have hD : va_D A [(h0, .inr (3, [.ref q1, .null, .null, .int 0])), (q1, .inl (kq1, 128, .inr (.inl (fun _ => 0))))] := hD
  refine lv_aload_n hx hb dX4_init_13 rfl (lv_at hl 0 rfl) ?_
  refine lv_sipush (v := 128) hx hb dX4_init_14 (by decide) ?_
  refine va_newa (atype := .int) (ty := .int) (N' := 128) (a0 := (128, .inl (fun _ => 0))) hx hb (hts (.arrayClass .int) k_X4_init_arrayClass_int) rfl hK hP hD hS hA (z_newi 128) (by decide) (by decide) (by decide) (Nat.le_of_ble_eq_true rfl) (Nat.le_of_ble_eq_true rfl) dX4_init_17 (fun q2 kq2 H hK hP hD hS => ?_)
  refine W.widen (k := 2) (n := 256) (by omega) (by omega) ?_
  have hP : va_P (dC, dI) vwCl [(h0, .inr (3, [.ref q1, .null, .null, .int 0])), (q1, .inl (kq1, 128, .inr (.inl (fun _ => 0)))), (q2, .inl (kq2, 128, .inl (fun _ => 0)))] H := hP
  have hD : va_D A [(h0, .inr (3, [.ref q1, .null, .null, .int 0])), (q1, .inl (kq1, 128, .inr (.inl (fun _ => 0)))), (q2, .inl (kq2, 128, .inl (fun _ => 0)))] := hD
  have hK : va_K (dC, dI) vwCl [(kq1, .long), (kq2, .int)] s := hK
  refine va_putF (D := (dC, dI)) (ci := 3) (v := .ref q2) (ty := (.array .int)) (C := RX4) (T := TX4) (N := 4) hx hb hts i_X4_init_X4 tyX4 tyX4_ok nmX4 hown hK hP hD hS 0 rfl rfl 1 (by decide) (hts (.fieldLink RX4 13 "StatementRules2$Names" "cells" "[I") k_X4_init_fieldLink_RX4_13_SR_Names_cells_I) (fun _ h9 => h9) rfl hin rfl (by decide +kernel) rfl rfl (Nat.le_of_ble_eq_true rfl) dX4_init_19 (fun H locs hP hD hS => ?_)
  have hP : va_P (dC, dI) vwCl [(h0, .inr (3, [.ref q1, .ref q2, .null, .int 0])), (q1, .inl (kq1, 128, .inr (.inl (fun _ => 0)))), (q2, .inl (kq2, 128, .inl (fun _ => 0)))] H := hP
  have hD : va_D A [(h0, .inr (3, [.ref q1, .ref q2, .null, .int 0])), (q1, .inl (kq1, 128, .inr (.inl (fun _ => 0)))), (q2, .inl (kq2, 128, .inl (fun _ => 0)))] := hD
  refine lv_aload_n hx hb dX4_init_22 rfl (lv_at hl 0 rfl) ?_
  refine lv_sipush (v := 128) hx hb dX4_init_23 (by decide) ?_
  refine va_newa (atype := .int) (ty := .int) (N' := 128) (a0 := (128, .inl (fun _ => 0))) hx hb (hts (.arrayClass .int) k_X4_init_arrayClass_int) rfl hK hP hD hS hA (z_newi 128) (by decide) (by decide) (by decide) (Nat.le_of_ble_eq_true rfl) (Nat.le_of_ble_eq_true rfl) dX4_init_26 (fun q3 kq3 H hK hP hD hS => ?_)
  refine W.widen (k := 3) (n := 384) (by omega) (by omega) ?_
  have hP : va_P (dC, dI) vwCl [(h0, .inr (3, [.ref q1, .ref q2, .null, .int 0])), (q1, .inl (kq1, 128, .inr (.inl (fun _ => 0)))), (q2, .inl (kq2, 128, .inl (fun _ => 0))), (q3, .inl (kq3, 128, .inl (fun _ => 0)))] H := hP
  have hD : va_D A [(h0, .inr (3, [.ref q1, .ref q2, .null, .int 0])), (q1, .inl (kq1, 128, .inr (.inl (fun _ => 0)))), (q2, .inl (kq2, 128, .inl (fun _ => 0))), (q3, .inl (kq3, 128, .inl (fun _ => 0)))] := hD
  have hK : va_K (dC, dI) vwCl [(kq1, .long), (kq2, .int), (kq3, .int)] s := hK
  refine va_putF (D := (dC, dI)) (ci := 3) (v := .ref q3) (ty := (.array .int)) (C := RX4) (T := TX4) (N := 4) hx hb hts i_X4_init_X4 tyX4 tyX4_ok nmX4 hown hK hP hD hS 0 rfl rfl 2 (by decide) (hts (.fieldLink RX4 17 "StatementRules2$Names" "frames" "[I") k_X4_init_fieldLink_RX4_17_SR_Names_frames_I) (fun _ h9 => h9) rfl hin rfl (by decide +kernel) rfl rfl (Nat.le_of_ble_eq_true rfl) dX4_init_28 (fun H locs hP hD hS => ?_)
  have hP : va_P (dC, dI) vwCl [(h0, .inr (3, [.ref q1, .ref q2, .ref q3, .int 0])), (q1, .inl (kq1, 128, .inr (.inl (fun _ => 0)))), (q2, .inl (kq2, 128, .inl (fun _ => 0))), (q3, .inl (kq3, 128, .inl (fun _ => 0)))] H := hP
  have hD : va_D A [(h0, .inr (3, [.ref q1, .ref q2, .ref q3, .int 0])), (q1, .inl (kq1, 128, .inr (.inl (fun _ => 0)))), (q2, .inl (kq2, 128, .inl (fun _ => 0))), (q3, .inl (kq3, 128, .inl (fun _ => 0)))] := hD
  have hP9 := hP.sub (ws' := [(h0, .inr (3, [.ref q1, .ref q2, .ref q3, .int 0])), (q1, .inl (kq1, 128, .inr (.inl (fun _ => 0)))), (q2, .inl (kq2, 128, .inl (fun _ => 0))), (q3, .inl (kq3, 128, .inl (fun _ => 0)))]) [0, 1, 2, 3] rfl
  have hD9 := hD.sub (ws' := [(h0, .inr (3, [.ref q1, .ref q2, .ref q3, .int 0])), (q1, .inl (kq1, 128, .inr (.inl (fun _ => 0)))), (q2, .inl (kq2, 128, .inl (fun _ => 0))), (q3, .inl (kq3, 128, .inl (fun _ => 0)))]) [0, 1, 2, 3] (by decide) rfl
  have hK9 := hK.sub (tys' := [(kq1, .long), (kq2, .int), (kq3, .int)]) [0, 1, 2] rfl
  exact W.vret hx hb hr (fun t ht hW => ⟨⟨(), rfl, trivial, q1, kq1, q2, kq2, q3, kq3, by rw [ht]; exact hP9, va_K.moved hW.alike hK9, hD9⟩, hS.F ht⟩) hS.2.2 dX4_init_31
theorem k_X6_init_methodLink_RX6_3_objectInit : Cond.methodLink RX6 3 objectInit ∈ wzX6_init := List.mem_cons_of_mem _ (List.mem_append_left _ (List.mem_of_getElem? (i := 0) rfl))
theorem k_X6_init_instanceMethod_objectInit : Cond.instanceMethod objectInit ∈ wzX6_init := List.mem_cons_of_mem _ (List.mem_append_left _ (List.mem_of_getElem? (i := 1) rfl))
theorem k_X6_init_code_objectInit_0xb1_1_none : Cond.code objectInit ⟨#[0xb1]⟩ 1 none ∈ wzX6_init := List.mem_cons_of_mem _ (List.mem_append_left _ (List.mem_of_getElem? (i := 2) rfl))
theorem k_X6_init_classLink_RX6_9_RX5 : Cond.classLink RX6 9 RX5 ∈ wzX6_init := List.mem_cons_of_mem _ (List.mem_append_left _ (List.mem_of_getElem? (i := 3) rfl))
theorem k_X6_init_fieldLink_RX6_11_SR_Opens_rows_LSR_Open : Cond.fieldLink RX6 11 "StatementRules2$Opens" "rows" "[LStatementRules2$Open;" ∈ wzX6_init := List.mem_cons_of_mem _ (List.mem_append_left _ (List.mem_of_getElem? (i := 4) rfl))
theorem i_X6_init_X6 : ∀ w ∈ wsX60, w ∈ wzX6_init := fun _ h => List.mem_cons_of_mem _ (List.mem_append_right _ (List.mem_append_left _ (h)))
theorem k_X6_init_arrayClass_int : Cond.arrayClass .int ∈ wzX6_init := List.mem_cons_of_mem _ (List.mem_append_left _ (List.mem_of_getElem? (i := 5) rfl))
theorem k_X6_init_fieldLink_RX6_17_SR_Opens_jumps_I : Cond.fieldLink RX6 17 "StatementRules2$Opens" "jumps" "[I" ∈ wzX6_init := List.mem_cons_of_mem _ (List.mem_append_left _ (List.mem_of_getElem? (i := 6) rfl))
set_option maxHeartbeats 4000000 in
set_option maxRecDepth 100000 in
theorem c_X6_init (l : Launch) (dC : Nat → ClassId) (dI : Nat → Nat → Nat) (sz : Nat) (h0 : Nat) : Met l yX6_init wzX6_init ({ frames := 1, cells := 2, slots := 560, locals := 60 }) (va_Pc [.ref h0] (zPre dC dI sz [(h0, .inr (5, [.null, .null, .int 0, .int 0, .int 0, .int 0]))] [])) (va_Qv (fun (_ : Unit) => True) (fun (_ : Unit) (t : State) => ∃ (qr : Nat), ∃ (qj : Nat), ∃ (kr : ClassId), ∃ (kj : ClassId), zPost dC dI (va_A [(h0, .inr (5, [.null, .null, .int 0, .int 0, .int 0, .int 0]))] sz) [(h0, .inr (5, [.ref qr, .ref qj, .int 0, .int 0, .int 0, .int 0])), (qr, .inl (kr, 400, .inr (.inr (.inr (.inr (fun _ => none)))))), (qj, .inl (kj, 160, .inl (fun _ => 0)))] [(kr, .object "StatementRules2$Open"), (kj, .int)] t) (va_A [(h0, .inr (5, [.null, .null, .int 0, .int 0, .int 0, .int 0]))] sz)) 2 560 (va_A [(h0, .inr (5, [.null, .null, .int 0, .int 0, .int 0, .int 0]))] sz) := by
  refine Met.ofW (cc := cX6_init) (maxL := 1) (ret := none) (by decide) rfl ?_
  intro p e s m args below meth c s₁ B hml hv
  obtain ⟨rfl, hsz, hZ, hP, hK, hD0⟩ := hv
  have hx := B.exec
  have hb := B.bytes
  have hr := B.returns
  have hts := atoms_spec (ws := wzX6_init) B.pre
  have hown : s.vm.findClass RX6 = some m.cls := findClass_of_methodNamed B.named
  have hlocks := B.notSynchronized
  have hin : meth.name = "<init>" := (name_of_methodNamed B.named B.method).1
  subst hsz
  have hD := hD0.self (sz := s.heap.size)
  generalize hAe : va_A [(h0, .inr (5, [.null, .null, .int 0, .int 0, .int 0, .int 0]))] s.heap.size = A at hD ⊢
  have hA : ∀ q : Nat, s.heap.size ≤ q → A q := fun q h => by rw [← hAe]; exact Or.inr h
  have hS : va_S A s.heap s.heap [] := va_S.rf
  have hP : va_P (dC, dI) vwCl [(h0, .inr (5, [.null, .null, .int 0, .int 0, .int 0, .int 0]))] s.heap := hP
  have hl := lv_entry ([.ref h0]) (n := 1) (Nat.le_of_ble_eq_true rfl)
  rw [lg_entry_eq]
  generalize (lg_sl ([.ref h0]) ++ List.replicate (1 - (lg_sl ([.ref h0])).length) Slot.unset).toArray = ls at hl ⊢
  have hl : lv_has ls 1 [(0, .ref h0)] := hl
  refine lv_aload_n hx hb dX6_init_0 rfl (lv_at hl 0 rfl) ?_
  refine W.objInit hx hb hown (hts (.methodLink RX6 3 objectInit) k_X6_init_methodLink_RX6_3_objectInit) (hts (.instanceMethod objectInit) k_X6_init_instanceMethod_objectInit) (hts (.code objectInit ⟨#[0xb1]⟩ 1 none) k_X6_init_code_objectInit_0xb1_1_none) rfl (by rw [hml]; exact hl.1) rfl dX6_init_1 (Nat.le_of_ble_eq_true rfl) (Nat.le_of_ble_eq_true rfl) ?_
  refine W.eq (g2 := F0 m 4 ls []) rfl ?_
  refine lv_aload_n hx hb dX6_init_4 rfl (lv_at hl 0 rfl) ?_
  refine lv_sipush (v := 400) hx hb dX6_init_5 (by decide) ?_
  refine va_newq (C := "StatementRules2$Open") (N' := 400) hx hb hown (hts (.classLink RX6 9 RX5) k_X6_init_classLink_RX6_9_RX5) hZ.2.1 hK hP hD hS hA (by decide) (by decide) (by decide) (Nat.le_of_ble_eq_true rfl) (Nat.le_of_ble_eq_true rfl) dX6_init_8 (fun q1 kq1 H hK hP hD hS => ?_)
  refine W.widen (k := 1) (n := 400) (by omega) (by omega) ?_
  have hP : va_P (dC, dI) vwCl [(h0, .inr (5, [.null, .null, .int 0, .int 0, .int 0, .int 0])), (q1, .inl (kq1, 400, .inr (.inr (.inr (.inr (fun _ => none))))))] H := hP
  have hD : va_D A [(h0, .inr (5, [.null, .null, .int 0, .int 0, .int 0, .int 0])), (q1, .inl (kq1, 400, .inr (.inr (.inr (.inr (fun _ => none))))))] := hD
  have hK : va_K (dC, dI) vwCl [(kq1, .object "StatementRules2$Open")] s := hK
  refine va_putF (D := (dC, dI)) (ci := 5) (v := .ref q1) (ty := (.array (.object "StatementRules2$Open"))) (C := RX6) (T := TX6) (N := 6) hx hb hts i_X6_init_X6 tyX6 tyX6_ok nmX6 hown hK hP hD hS 0 rfl rfl 0 (by decide) (hts (.fieldLink RX6 11 "StatementRules2$Opens" "rows" "[LStatementRules2$Open;") k_X6_init_fieldLink_RX6_11_SR_Opens_rows_LSR_Open) (fun _ h9 => h9) rfl hin rfl (by decide +kernel) rfl rfl (Nat.le_of_ble_eq_true rfl) dX6_init_11 (fun H locs hP hD hS => ?_)
  have hP : va_P (dC, dI) vwCl [(h0, .inr (5, [.ref q1, .null, .int 0, .int 0, .int 0, .int 0])), (q1, .inl (kq1, 400, .inr (.inr (.inr (.inr (fun _ => none))))))] H := hP
  have hD : va_D A [(h0, .inr (5, [.ref q1, .null, .int 0, .int 0, .int 0, .int 0])), (q1, .inl (kq1, 400, .inr (.inr (.inr (.inr (fun _ => none))))))] := hD
  refine lv_aload_n hx hb dX6_init_14 rfl (lv_at hl 0 rfl) ?_
  refine lv_sipush (v := 160) hx hb dX6_init_15 (by decide) ?_
  refine va_newa (atype := .int) (ty := .int) (N' := 160) (a0 := (160, .inl (fun _ => 0))) hx hb (hts (.arrayClass .int) k_X6_init_arrayClass_int) rfl hK hP hD hS hA (z_newi 160) (by decide) (by decide) (by decide) (Nat.le_of_ble_eq_true rfl) (Nat.le_of_ble_eq_true rfl) dX6_init_18 (fun q2 kq2 H hK hP hD hS => ?_)
  refine W.widen (k := 2) (n := 560) (by omega) (by omega) ?_
  have hP : va_P (dC, dI) vwCl [(h0, .inr (5, [.ref q1, .null, .int 0, .int 0, .int 0, .int 0])), (q1, .inl (kq1, 400, .inr (.inr (.inr (.inr (fun _ => none)))))), (q2, .inl (kq2, 160, .inl (fun _ => 0)))] H := hP
  have hD : va_D A [(h0, .inr (5, [.ref q1, .null, .int 0, .int 0, .int 0, .int 0])), (q1, .inl (kq1, 400, .inr (.inr (.inr (.inr (fun _ => none)))))), (q2, .inl (kq2, 160, .inl (fun _ => 0)))] := hD
  have hK : va_K (dC, dI) vwCl [(kq1, .object "StatementRules2$Open"), (kq2, .int)] s := hK
  refine va_putF (D := (dC, dI)) (ci := 5) (v := .ref q2) (ty := (.array .int)) (C := RX6) (T := TX6) (N := 6) hx hb hts i_X6_init_X6 tyX6 tyX6_ok nmX6 hown hK hP hD hS 0 rfl rfl 1 (by decide) (hts (.fieldLink RX6 17 "StatementRules2$Opens" "jumps" "[I") k_X6_init_fieldLink_RX6_17_SR_Opens_jumps_I) (fun _ h9 => h9) rfl hin rfl (by decide +kernel) rfl rfl (Nat.le_of_ble_eq_true rfl) dX6_init_20 (fun H locs hP hD hS => ?_)
  have hP : va_P (dC, dI) vwCl [(h0, .inr (5, [.ref q1, .ref q2, .int 0, .int 0, .int 0, .int 0])), (q1, .inl (kq1, 400, .inr (.inr (.inr (.inr (fun _ => none)))))), (q2, .inl (kq2, 160, .inl (fun _ => 0)))] H := hP
  have hD : va_D A [(h0, .inr (5, [.ref q1, .ref q2, .int 0, .int 0, .int 0, .int 0])), (q1, .inl (kq1, 400, .inr (.inr (.inr (.inr (fun _ => none)))))), (q2, .inl (kq2, 160, .inl (fun _ => 0)))] := hD
  have hP9 := hP.sub (ws' := [(h0, .inr (5, [.ref q1, .ref q2, .int 0, .int 0, .int 0, .int 0])), (q1, .inl (kq1, 400, .inr (.inr (.inr (.inr (fun _ => none)))))), (q2, .inl (kq2, 160, .inl (fun _ => 0)))]) [0, 1, 2] rfl
  have hD9 := hD.sub (ws' := [(h0, .inr (5, [.ref q1, .ref q2, .int 0, .int 0, .int 0, .int 0])), (q1, .inl (kq1, 400, .inr (.inr (.inr (.inr (fun _ => none)))))), (q2, .inl (kq2, 160, .inl (fun _ => 0)))]) [0, 1, 2] (by decide) rfl
  have hK9 := hK.sub (tys' := [(kq1, .object "StatementRules2$Open"), (kq2, .int)]) [0, 1] rfl
  exact W.vret hx hb hr (fun t ht hW => ⟨⟨(), rfl, trivial, q1, q2, kq1, kq2, by rw [ht]; exact hP9, va_K.moved hW.alike hK9, hD9⟩, hS.F ht⟩) hS.2.2 dX6_init_23
theorem k_X0_init_methodLink_RX0_3_objectInit : Cond.methodLink RX0 3 objectInit ∈ wzX0_init := List.mem_cons_of_mem _ (List.mem_append_left _ (List.mem_of_getElem? (i := 0) rfl))
theorem k_X0_init_instanceMethod_objectInit : Cond.instanceMethod objectInit ∈ wzX0_init := List.mem_cons_of_mem _ (List.mem_append_left _ (List.mem_of_getElem? (i := 1) rfl))
theorem k_X0_init_code_objectInit_0xb1_1_none : Cond.code objectInit ⟨#[0xb1]⟩ 1 none ∈ wzX0_init := List.mem_cons_of_mem _ (List.mem_append_left _ (List.mem_of_getElem? (i := 2) rfl))
theorem k_X0_init_arrayClass_int : Cond.arrayClass .int ∈ wzX0_init := List.mem_cons_of_mem _ (List.mem_append_left _ (List.mem_of_getElem? (i := 3) rfl))
theorem k_X0_init_fieldLink_RX0_9_SR_Code_ops_I : Cond.fieldLink RX0 9 "StatementRules2$Code" "ops" "[I" ∈ wzX0_init := List.mem_cons_of_mem _ (List.mem_append_left _ (List.mem_of_getElem? (i := 4) rfl))
theorem i_X0_init_X0 : ∀ w ∈ wsX00, w ∈ wzX0_init := fun _ h => List.mem_cons_of_mem _ (List.mem_append_right _ (List.mem_append_left _ (h)))
theorem k_X0_init_fieldLink_RX0_15_SR_Code_arguments_I : Cond.fieldLink RX0 15 "StatementRules2$Code" "arguments" "[I" ∈ wzX0_init := List.mem_cons_of_mem _ (List.mem_append_left _ (List.mem_of_getElem? (i := 5) rfl))
theorem k_X0_init_fieldLink_RX0_18_SR_Code_targets_I : Cond.fieldLink RX0 18 "StatementRules2$Code" "targets" "[I" ∈ wzX0_init := List.mem_cons_of_mem _ (List.mem_append_left _ (List.mem_of_getElem? (i := 6) rfl))
theorem k_X0_init_fieldLink_RX0_21_SR_Code_caseValues_I : Cond.fieldLink RX0 21 "StatementRules2$Code" "caseValues" "[I" ∈ wzX0_init := List.mem_cons_of_mem _ (List.mem_append_left _ (List.mem_of_getElem? (i := 7) rfl))
theorem k_X0_init_fieldLink_RX0_24_SR_Code_caseTargets_I : Cond.fieldLink RX0 24 "StatementRules2$Code" "caseTargets" "[I" ∈ wzX0_init := List.mem_cons_of_mem _ (List.mem_append_left _ (List.mem_of_getElem? (i := 8) rfl))
set_option maxHeartbeats 4000000 in
set_option maxRecDepth 100000 in
theorem c_X0_init (l : Launch) (dC : Nat → ClassId) (dI : Nat → Nat → Nat) (sz : Nat) (h0 : Nat) : Met l yX0_init wzX0_init ({ frames := 1, cells := 5, slots := 4064, locals := 60 }) (va_Pc [.ref h0] (zPre dC dI sz [(h0, .inr (0, [.null, .null, .null, .null, .null, .int 0, .int 0, .int 0, .int 0, .int 0, .int 0, .int 0, .int 0]))] [])) (va_Qv (fun (_ : Unit) => True) (fun (_ : Unit) (t : State) => ∃ (qo : Nat), ∃ (qa : Nat), ∃ (qt : Nat), ∃ (qv : Nat), ∃ (qw : Nat), ∃ (ko : ClassId), ∃ (ka : ClassId), ∃ (kt : ClassId), ∃ (kv : ClassId), ∃ (kw : ClassId), zPost dC dI (va_A [(h0, .inr (0, [.null, .null, .null, .null, .null, .int 0, .int 0, .int 0, .int 0, .int 0, .int 0, .int 0, .int 0]))] sz) [(h0, .inr (0, [.ref qo, .ref qa, .ref qt, .ref qv, .ref qw, .int 0, .int 0, .int 0, .int 0, .int 0, .int 0, .int 0, .int 0])), (qo, .inl (ko, 1200, .inl (fun _ => 0))), (qa, .inl (ka, 1200, .inl (fun _ => 0))), (qt, .inl (kt, 1024, .inl (fun _ => 0))), (qv, .inl (kv, 320, .inl (fun _ => 0))), (qw, .inl (kw, 320, .inl (fun _ => 0)))] [(ko, .int), (ka, .int), (kt, .int), (kv, .int), (kw, .int)] t) (va_A [(h0, .inr (0, [.null, .null, .null, .null, .null, .int 0, .int 0, .int 0, .int 0, .int 0, .int 0, .int 0, .int 0]))] sz)) 5 4064 (va_A [(h0, .inr (0, [.null, .null, .null, .null, .null, .int 0, .int 0, .int 0, .int 0, .int 0, .int 0, .int 0, .int 0]))] sz) := by
  refine Met.ofW (cc := cX0_init) (maxL := 1) (ret := none) (by decide) rfl ?_
  intro p e s m args below meth c s₁ B hml hv
  obtain ⟨rfl, hsz, hZ, hP, hK, hD0⟩ := hv
  have hx := B.exec
  have hb := B.bytes
  have hr := B.returns
  have hts := atoms_spec (ws := wzX0_init) B.pre
  have hown : s.vm.findClass RX0 = some m.cls := findClass_of_methodNamed B.named
  have hlocks := B.notSynchronized
  have hin : meth.name = "<init>" := (name_of_methodNamed B.named B.method).1
  subst hsz
  have hD := hD0.self (sz := s.heap.size)
  generalize hAe : va_A [(h0, .inr (0, [.null, .null, .null, .null, .null, .int 0, .int 0, .int 0, .int 0, .int 0, .int 0, .int 0, .int 0]))] s.heap.size = A at hD ⊢
  have hA : ∀ q : Nat, s.heap.size ≤ q → A q := fun q h => by rw [← hAe]; exact Or.inr h
  have hS : va_S A s.heap s.heap [] := va_S.rf
  have hP : va_P (dC, dI) vwCl [(h0, .inr (0, [.null, .null, .null, .null, .null, .int 0, .int 0, .int 0, .int 0, .int 0, .int 0, .int 0, .int 0]))] s.heap := hP
  have hl := lv_entry ([.ref h0]) (n := 1) (Nat.le_of_ble_eq_true rfl)
  rw [lg_entry_eq]
  generalize (lg_sl ([.ref h0]) ++ List.replicate (1 - (lg_sl ([.ref h0])).length) Slot.unset).toArray = ls at hl ⊢
  have hl : lv_has ls 1 [(0, .ref h0)] := hl
  refine lv_aload_n hx hb dX0_init_0 rfl (lv_at hl 0 rfl) ?_
  refine W.objInit hx hb hown (hts (.methodLink RX0 3 objectInit) k_X0_init_methodLink_RX0_3_objectInit) (hts (.instanceMethod objectInit) k_X0_init_instanceMethod_objectInit) (hts (.code objectInit ⟨#[0xb1]⟩ 1 none) k_X0_init_code_objectInit_0xb1_1_none) rfl (by rw [hml]; exact hl.1) rfl dX0_init_1 (Nat.le_of_ble_eq_true rfl) (Nat.le_of_ble_eq_true rfl) ?_
  refine W.eq (g2 := F0 m 4 ls []) rfl ?_
  refine lv_aload_n hx hb dX0_init_4 rfl (lv_at hl 0 rfl) ?_
  refine lv_sipush (v := 1200) hx hb dX0_init_5 (by decide) ?_
  refine va_newa (atype := .int) (ty := .int) (N' := 1200) (a0 := (1200, .inl (fun _ => 0))) hx hb (hts (.arrayClass .int) k_X0_init_arrayClass_int) rfl hK hP hD hS hA (z_newi 1200) (by decide) (by decide) (by decide) (Nat.le_of_ble_eq_true rfl) (Nat.le_of_ble_eq_true rfl) dX0_init_8 (fun q1 kq1 H hK hP hD hS => ?_)
  refine W.widen (k := 1) (n := 1200) (by omega) (by omega) ?_
  have hP : va_P (dC, dI) vwCl [(h0, .inr (0, [.null, .null, .null, .null, .null, .int 0, .int 0, .int 0, .int 0, .int 0, .int 0, .int 0, .int 0])), (q1, .inl (kq1, 1200, .inl (fun _ => 0)))] H := hP
  have hD : va_D A [(h0, .inr (0, [.null, .null, .null, .null, .null, .int 0, .int 0, .int 0, .int 0, .int 0, .int 0, .int 0, .int 0])), (q1, .inl (kq1, 1200, .inl (fun _ => 0)))] := hD
  have hK : va_K (dC, dI) vwCl [(kq1, .int)] s := hK
  refine va_putF (D := (dC, dI)) (ci := 0) (v := .ref q1) (ty := (.array .int)) (C := RX0) (T := TX0) (N := 13) hx hb hts i_X0_init_X0 tyX0 tyX0_ok nmX0 hown hK hP hD hS 0 rfl rfl 0 (by decide) (hts (.fieldLink RX0 9 "StatementRules2$Code" "ops" "[I") k_X0_init_fieldLink_RX0_9_SR_Code_ops_I) (fun _ h9 => h9) rfl hin rfl (by decide +kernel) rfl rfl (Nat.le_of_ble_eq_true rfl) dX0_init_10 (fun H locs hP hD hS => ?_)
  have hP : va_P (dC, dI) vwCl [(h0, .inr (0, [.ref q1, .null, .null, .null, .null, .int 0, .int 0, .int 0, .int 0, .int 0, .int 0, .int 0, .int 0])), (q1, .inl (kq1, 1200, .inl (fun _ => 0)))] H := hP
  have hD : va_D A [(h0, .inr (0, [.ref q1, .null, .null, .null, .null, .int 0, .int 0, .int 0, .int 0, .int 0, .int 0, .int 0, .int 0])), (q1, .inl (kq1, 1200, .inl (fun _ => 0)))] := hD
  refine lv_aload_n hx hb dX0_init_13 rfl (lv_at hl 0 rfl) ?_
  refine lv_sipush (v := 1200) hx hb dX0_init_14 (by decide) ?_
  refine va_newa (atype := .int) (ty := .int) (N' := 1200) (a0 := (1200, .inl (fun _ => 0))) hx hb (hts (.arrayClass .int) k_X0_init_arrayClass_int) rfl hK hP hD hS hA (z_newi 1200) (by decide) (by decide) (by decide) (Nat.le_of_ble_eq_true rfl) (Nat.le_of_ble_eq_true rfl) dX0_init_17 (fun q2 kq2 H hK hP hD hS => ?_)
  refine W.widen (k := 2) (n := 2400) (by omega) (by omega) ?_
  have hP : va_P (dC, dI) vwCl [(h0, .inr (0, [.ref q1, .null, .null, .null, .null, .int 0, .int 0, .int 0, .int 0, .int 0, .int 0, .int 0, .int 0])), (q1, .inl (kq1, 1200, .inl (fun _ => 0))), (q2, .inl (kq2, 1200, .inl (fun _ => 0)))] H := hP
  have hD : va_D A [(h0, .inr (0, [.ref q1, .null, .null, .null, .null, .int 0, .int 0, .int 0, .int 0, .int 0, .int 0, .int 0, .int 0])), (q1, .inl (kq1, 1200, .inl (fun _ => 0))), (q2, .inl (kq2, 1200, .inl (fun _ => 0)))] := hD
  have hK : va_K (dC, dI) vwCl [(kq1, .int), (kq2, .int)] s := hK
  refine va_putF (D := (dC, dI)) (ci := 0) (v := .ref q2) (ty := (.array .int)) (C := RX0) (T := TX0) (N := 13) hx hb hts i_X0_init_X0 tyX0 tyX0_ok nmX0 hown hK hP hD hS 0 rfl rfl 1 (by decide) (hts (.fieldLink RX0 15 "StatementRules2$Code" "arguments" "[I") k_X0_init_fieldLink_RX0_15_SR_Code_arguments_I) (fun _ h9 => h9) rfl hin rfl (by decide +kernel) rfl rfl (Nat.le_of_ble_eq_true rfl) dX0_init_19 (fun H locs hP hD hS => ?_)
  have hP : va_P (dC, dI) vwCl [(h0, .inr (0, [.ref q1, .ref q2, .null, .null, .null, .int 0, .int 0, .int 0, .int 0, .int 0, .int 0, .int 0, .int 0])), (q1, .inl (kq1, 1200, .inl (fun _ => 0))), (q2, .inl (kq2, 1200, .inl (fun _ => 0)))] H := hP
  have hD : va_D A [(h0, .inr (0, [.ref q1, .ref q2, .null, .null, .null, .int 0, .int 0, .int 0, .int 0, .int 0, .int 0, .int 0, .int 0])), (q1, .inl (kq1, 1200, .inl (fun _ => 0))), (q2, .inl (kq2, 1200, .inl (fun _ => 0)))] := hD
  refine lv_aload_n hx hb dX0_init_22 rfl (lv_at hl 0 rfl) ?_
  refine lv_sipush (v := 1024) hx hb dX0_init_23 (by decide) ?_
  refine va_newa (atype := .int) (ty := .int) (N' := 1024) (a0 := (1024, .inl (fun _ => 0))) hx hb (hts (.arrayClass .int) k_X0_init_arrayClass_int) rfl hK hP hD hS hA (z_newi 1024) (by decide) (by decide) (by decide) (Nat.le_of_ble_eq_true rfl) (Nat.le_of_ble_eq_true rfl) dX0_init_26 (fun q3 kq3 H hK hP hD hS => ?_)
  refine W.widen (k := 3) (n := 3424) (by omega) (by omega) ?_
  have hP : va_P (dC, dI) vwCl [(h0, .inr (0, [.ref q1, .ref q2, .null, .null, .null, .int 0, .int 0, .int 0, .int 0, .int 0, .int 0, .int 0, .int 0])), (q1, .inl (kq1, 1200, .inl (fun _ => 0))), (q2, .inl (kq2, 1200, .inl (fun _ => 0))), (q3, .inl (kq3, 1024, .inl (fun _ => 0)))] H := hP
  have hD : va_D A [(h0, .inr (0, [.ref q1, .ref q2, .null, .null, .null, .int 0, .int 0, .int 0, .int 0, .int 0, .int 0, .int 0, .int 0])), (q1, .inl (kq1, 1200, .inl (fun _ => 0))), (q2, .inl (kq2, 1200, .inl (fun _ => 0))), (q3, .inl (kq3, 1024, .inl (fun _ => 0)))] := hD
  have hK : va_K (dC, dI) vwCl [(kq1, .int), (kq2, .int), (kq3, .int)] s := hK
  refine va_putF (D := (dC, dI)) (ci := 0) (v := .ref q3) (ty := (.array .int)) (C := RX0) (T := TX0) (N := 13) hx hb hts i_X0_init_X0 tyX0 tyX0_ok nmX0 hown hK hP hD hS 0 rfl rfl 2 (by decide) (hts (.fieldLink RX0 18 "StatementRules2$Code" "targets" "[I") k_X0_init_fieldLink_RX0_18_SR_Code_targets_I) (fun _ h9 => h9) rfl hin rfl (by decide +kernel) rfl rfl (Nat.le_of_ble_eq_true rfl) dX0_init_28 (fun H locs hP hD hS => ?_)
  have hP : va_P (dC, dI) vwCl [(h0, .inr (0, [.ref q1, .ref q2, .ref q3, .null, .null, .int 0, .int 0, .int 0, .int 0, .int 0, .int 0, .int 0, .int 0])), (q1, .inl (kq1, 1200, .inl (fun _ => 0))), (q2, .inl (kq2, 1200, .inl (fun _ => 0))), (q3, .inl (kq3, 1024, .inl (fun _ => 0)))] H := hP
  have hD : va_D A [(h0, .inr (0, [.ref q1, .ref q2, .ref q3, .null, .null, .int 0, .int 0, .int 0, .int 0, .int 0, .int 0, .int 0, .int 0])), (q1, .inl (kq1, 1200, .inl (fun _ => 0))), (q2, .inl (kq2, 1200, .inl (fun _ => 0))), (q3, .inl (kq3, 1024, .inl (fun _ => 0)))] := hD
  refine lv_aload_n hx hb dX0_init_31 rfl (lv_at hl 0 rfl) ?_
  refine lv_sipush (v := 320) hx hb dX0_init_32 (by decide) ?_
  refine va_newa (atype := .int) (ty := .int) (N' := 320) (a0 := (320, .inl (fun _ => 0))) hx hb (hts (.arrayClass .int) k_X0_init_arrayClass_int) rfl hK hP hD hS hA (z_newi 320) (by decide) (by decide) (by decide) (Nat.le_of_ble_eq_true rfl) (Nat.le_of_ble_eq_true rfl) dX0_init_35 (fun q4 kq4 H hK hP hD hS => ?_)
  refine W.widen (k := 4) (n := 3744) (by omega) (by omega) ?_
  have hP : va_P (dC, dI) vwCl [(h0, .inr (0, [.ref q1, .ref q2, .ref q3, .null, .null, .int 0, .int 0, .int 0, .int 0, .int 0, .int 0, .int 0, .int 0])), (q1, .inl (kq1, 1200, .inl (fun _ => 0))), (q2, .inl (kq2, 1200, .inl (fun _ => 0))), (q3, .inl (kq3, 1024, .inl (fun _ => 0))), (q4, .inl (kq4, 320, .inl (fun _ => 0)))] H := hP
  have hD : va_D A [(h0, .inr (0, [.ref q1, .ref q2, .ref q3, .null, .null, .int 0, .int 0, .int 0, .int 0, .int 0, .int 0, .int 0, .int 0])), (q1, .inl (kq1, 1200, .inl (fun _ => 0))), (q2, .inl (kq2, 1200, .inl (fun _ => 0))), (q3, .inl (kq3, 1024, .inl (fun _ => 0))), (q4, .inl (kq4, 320, .inl (fun _ => 0)))] := hD
  have hK : va_K (dC, dI) vwCl [(kq1, .int), (kq2, .int), (kq3, .int), (kq4, .int)] s := hK
  refine va_putF (D := (dC, dI)) (ci := 0) (v := .ref q4) (ty := (.array .int)) (C := RX0) (T := TX0) (N := 13) hx hb hts i_X0_init_X0 tyX0 tyX0_ok nmX0 hown hK hP hD hS 0 rfl rfl 3 (by decide) (hts (.fieldLink RX0 21 "StatementRules2$Code" "caseValues" "[I") k_X0_init_fieldLink_RX0_21_SR_Code_caseValues_I) (fun _ h9 => h9) rfl hin rfl (by decide +kernel) rfl rfl (Nat.le_of_ble_eq_true rfl) dX0_init_37 (fun H locs hP hD hS => ?_)
  have hP : va_P (dC, dI) vwCl [(h0, .inr (0, [.ref q1, .ref q2, .ref q3, .ref q4, .null, .int 0, .int 0, .int 0, .int 0, .int 0, .int 0, .int 0, .int 0])), (q1, .inl (kq1, 1200, .inl (fun _ => 0))), (q2, .inl (kq2, 1200, .inl (fun _ => 0))), (q3, .inl (kq3, 1024, .inl (fun _ => 0))), (q4, .inl (kq4, 320, .inl (fun _ => 0)))] H := hP
  have hD : va_D A [(h0, .inr (0, [.ref q1, .ref q2, .ref q3, .ref q4, .null, .int 0, .int 0, .int 0, .int 0, .int 0, .int 0, .int 0, .int 0])), (q1, .inl (kq1, 1200, .inl (fun _ => 0))), (q2, .inl (kq2, 1200, .inl (fun _ => 0))), (q3, .inl (kq3, 1024, .inl (fun _ => 0))), (q4, .inl (kq4, 320, .inl (fun _ => 0)))] := hD
  refine lv_aload_n hx hb dX0_init_40 rfl (lv_at hl 0 rfl) ?_
  refine lv_sipush (v := 320) hx hb dX0_init_41 (by decide) ?_
  refine va_newa (atype := .int) (ty := .int) (N' := 320) (a0 := (320, .inl (fun _ => 0))) hx hb (hts (.arrayClass .int) k_X0_init_arrayClass_int) rfl hK hP hD hS hA (z_newi 320) (by decide) (by decide) (by decide) (Nat.le_of_ble_eq_true rfl) (Nat.le_of_ble_eq_true rfl) dX0_init_44 (fun q5 kq5 H hK hP hD hS => ?_)
  refine W.widen (k := 5) (n := 4064) (by omega) (by omega) ?_
  have hP : va_P (dC, dI) vwCl [(h0, .inr (0, [.ref q1, .ref q2, .ref q3, .ref q4, .null, .int 0, .int 0, .int 0, .int 0, .int 0, .int 0, .int 0, .int 0])), (q1, .inl (kq1, 1200, .inl (fun _ => 0))), (q2, .inl (kq2, 1200, .inl (fun _ => 0))), (q3, .inl (kq3, 1024, .inl (fun _ => 0))), (q4, .inl (kq4, 320, .inl (fun _ => 0))), (q5, .inl (kq5, 320, .inl (fun _ => 0)))] H := hP
  have hD : va_D A [(h0, .inr (0, [.ref q1, .ref q2, .ref q3, .ref q4, .null, .int 0, .int 0, .int 0, .int 0, .int 0, .int 0, .int 0, .int 0])), (q1, .inl (kq1, 1200, .inl (fun _ => 0))), (q2, .inl (kq2, 1200, .inl (fun _ => 0))), (q3, .inl (kq3, 1024, .inl (fun _ => 0))), (q4, .inl (kq4, 320, .inl (fun _ => 0))), (q5, .inl (kq5, 320, .inl (fun _ => 0)))] := hD
  have hK : va_K (dC, dI) vwCl [(kq1, .int), (kq2, .int), (kq3, .int), (kq4, .int), (kq5, .int)] s := hK
  refine va_putF (D := (dC, dI)) (ci := 0) (v := .ref q5) (ty := (.array .int)) (C := RX0) (T := TX0) (N := 13) hx hb hts i_X0_init_X0 tyX0 tyX0_ok nmX0 hown hK hP hD hS 0 rfl rfl 4 (by decide) (hts (.fieldLink RX0 24 "StatementRules2$Code" "caseTargets" "[I") k_X0_init_fieldLink_RX0_24_SR_Code_caseTargets_I) (fun _ h9 => h9) rfl hin rfl (by decide +kernel) rfl rfl (Nat.le_of_ble_eq_true rfl) dX0_init_46 (fun H locs hP hD hS => ?_)
  have hP : va_P (dC, dI) vwCl [(h0, .inr (0, [.ref q1, .ref q2, .ref q3, .ref q4, .ref q5, .int 0, .int 0, .int 0, .int 0, .int 0, .int 0, .int 0, .int 0])), (q1, .inl (kq1, 1200, .inl (fun _ => 0))), (q2, .inl (kq2, 1200, .inl (fun _ => 0))), (q3, .inl (kq3, 1024, .inl (fun _ => 0))), (q4, .inl (kq4, 320, .inl (fun _ => 0))), (q5, .inl (kq5, 320, .inl (fun _ => 0)))] H := hP
  have hD : va_D A [(h0, .inr (0, [.ref q1, .ref q2, .ref q3, .ref q4, .ref q5, .int 0, .int 0, .int 0, .int 0, .int 0, .int 0, .int 0, .int 0])), (q1, .inl (kq1, 1200, .inl (fun _ => 0))), (q2, .inl (kq2, 1200, .inl (fun _ => 0))), (q3, .inl (kq3, 1024, .inl (fun _ => 0))), (q4, .inl (kq4, 320, .inl (fun _ => 0))), (q5, .inl (kq5, 320, .inl (fun _ => 0)))] := hD
  have hP9 := hP.sub (ws' := [(h0, .inr (0, [.ref q1, .ref q2, .ref q3, .ref q4, .ref q5, .int 0, .int 0, .int 0, .int 0, .int 0, .int 0, .int 0, .int 0])), (q1, .inl (kq1, 1200, .inl (fun _ => 0))), (q2, .inl (kq2, 1200, .inl (fun _ => 0))), (q3, .inl (kq3, 1024, .inl (fun _ => 0))), (q4, .inl (kq4, 320, .inl (fun _ => 0))), (q5, .inl (kq5, 320, .inl (fun _ => 0)))]) [0, 1, 2, 3, 4, 5] rfl
  have hD9 := hD.sub (ws' := [(h0, .inr (0, [.ref q1, .ref q2, .ref q3, .ref q4, .ref q5, .int 0, .int 0, .int 0, .int 0, .int 0, .int 0, .int 0, .int 0])), (q1, .inl (kq1, 1200, .inl (fun _ => 0))), (q2, .inl (kq2, 1200, .inl (fun _ => 0))), (q3, .inl (kq3, 1024, .inl (fun _ => 0))), (q4, .inl (kq4, 320, .inl (fun _ => 0))), (q5, .inl (kq5, 320, .inl (fun _ => 0)))]) [0, 1, 2, 3, 4, 5] (by decide) rfl
  have hK9 := hK.sub (tys' := [(kq1, .int), (kq2, .int), (kq3, .int), (kq4, .int), (kq5, .int)]) [0, 1, 2, 3, 4] rfl
  exact W.vret hx hb hr (fun t ht hW => ⟨⟨(), rfl, trivial, q1, q2, q3, q4, q5, kq1, kq2, kq3, kq4, kq5, by rw [ht]; exact hP9, va_K.moved hW.alike hK9, hD9⟩, hS.F ht⟩) hS.2.2 dX0_init_49
end
section
theorem k_X10_init_methodLink_RX10_3_objectInit : Cond.methodLink RX10 3 objectInit ∈ wzX10_init := List.mem_cons_of_mem _ (List.mem_append_left _ (List.mem_of_getElem? (i := 0) rfl))
theorem k_X10_init_instanceMethod_objectInit : Cond.instanceMethod objectInit ∈ wzX10_init := List.mem_cons_of_mem _ (List.mem_append_left _ (List.mem_of_getElem? (i := 1) rfl))
theorem k_X10_init_code_objectInit_0xb1_1_none : Cond.code objectInit ⟨#[0xb1]⟩ 1 none ∈ wzX10_init := List.mem_cons_of_mem _ (List.mem_append_left _ (List.mem_of_getElem? (i := 2) rfl))
theorem k_X10_init_arrayClass_int : Cond.arrayClass .int ∈ wzX10_init := List.mem_cons_of_mem _ (List.mem_append_left _ (List.mem_of_getElem? (i := 3) rfl))
theorem k_X10_init_fieldLink_RX10_9_SR_Told_above_I : Cond.fieldLink RX10 9 "StatementRules2$Told" "above" "[I" ∈ wzX10_init := List.mem_cons_of_mem _ (List.mem_append_left _ (List.mem_of_getElem? (i := 4) rfl))
theorem i_X10_init_X10 : ∀ w ∈ wsX100, w ∈ wzX10_init := fun _ h => List.mem_cons_of_mem _ (List.mem_append_right _ (List.mem_append_left _ (h)))
theorem k_X10_init_fieldLink_RX10_15_SR_Told_isNull_I : Cond.fieldLink RX10 15 "StatementRules2$Told" "isNull" "[I" ∈ wzX10_init := List.mem_cons_of_mem _ (List.mem_append_left _ (List.mem_of_getElem? (i := 5) rfl))
theorem k_X10_init_fieldLink_RX10_18_SR_Told_opening_I : Cond.fieldLink RX10 18 "StatementRules2$Told" "opening" "[I" ∈ wzX10_init := List.mem_cons_of_mem _ (List.mem_append_left _ (List.mem_of_getElem? (i := 6) rfl))
theorem k_X10_init_fieldLink_RX10_21_SR_Told_closing_I : Cond.fieldLink RX10 21 "StatementRules2$Told" "closing" "[I" ∈ wzX10_init := List.mem_cons_of_mem _ (List.mem_append_left _ (List.mem_of_getElem? (i := 7) rfl))
theorem k_X10_init_fieldLink_RX10_24_SR_Told_kindCount_I : Cond.fieldLink RX10 24 "StatementRules2$Told" "kindCount" "I" ∈ wzX10_init := List.mem_cons_of_mem _ (List.mem_append_left _ (List.mem_of_getElem? (i := 8) rfl))
set_option maxHeartbeats 4000000 in
set_option maxRecDepth 100000 in
theorem c_X10_init (l : Launch) (dC : Nat → ClassId) (dI : Nat → Nat → Nat) (sz : Nat) (h0 : Nat) : Met l yX10_init wzX10_init ({ frames := 1, cells := 4, slots := 36, locals := 60 }) (va_Pc [.ref h0] (zPre dC dI sz [(h0, .inr (9, [.null, .null, .null, .null, .int 0, .int 0]))] [])) (va_Qv (fun (_ : Unit) => True) (fun (_ : Unit) (t : State) => ∃ (qa : Nat), ∃ (kA : ClassId), ∃ (qn : Nat), ∃ (kn : ClassId), ∃ (qo : Nat), ∃ (ko : ClassId), ∃ (qc : Nat), ∃ (kc : ClassId), ∃ (fo : Nat → Int32), ∃ (fc : Nat → Int32), zPost dC dI (va_A [(h0, .inr (9, [.null, .null, .null, .null, .int 0, .int 0]))] sz) [(h0, .inr (9, [.ref qa, .ref qn, .ref qo, .ref qc, .int 4, .int 0])), (qa, .inl (kA, 12, .inl (upd (fun _ => 0) 0 (-1)))), (qn, .inl (kn, 8, .inl (fun _ => 0))), (qo, .inl (ko, 8, .inl fo)), (qc, .inl (kc, 8, .inl fc))] [(kA, .int), (kn, .int), (ko, .int), (kc, .int)] t) (va_A [(h0, .inr (9, [.null, .null, .null, .null, .int 0, .int 0]))] sz)) 4 36 (va_A [(h0, .inr (9, [.null, .null, .null, .null, .int 0, .int 0]))] sz) := by
  refine Met.ofW (cc := cX10_init) (maxL := 2) (ret := none) (by decide) rfl ?_
  intro p e s m args below meth c s₁ B hml hv
  obtain ⟨rfl, hsz, hZ, hP, hK, hD0⟩ := hv
  have hx := B.exec
  have hb := B.bytes
  have hr := B.returns
  have hts := atoms_spec (ws := wzX10_init) B.pre
  have hown : s.vm.findClass RX10 = some m.cls := findClass_of_methodNamed B.named
  have hlocks := B.notSynchronized
  have hin : meth.name = "<init>" := (name_of_methodNamed B.named B.method).1
  subst hsz
  have hD := hD0.self (sz := s.heap.size)
  generalize hAe : va_A [(h0, .inr (9, [.null, .null, .null, .null, .int 0, .int 0]))] s.heap.size = A at hD ⊢
  have hA : ∀ q : Nat, s.heap.size ≤ q → A q := fun q h => by rw [← hAe]; exact Or.inr h
  have hS : va_S A s.heap s.heap [] := va_S.rf
  have hP : va_P (dC, dI) vwCl [(h0, .inr (9, [.null, .null, .null, .null, .int 0, .int 0]))] s.heap := hP
  have hl := lv_entry ([.ref h0]) (n := 2) (Nat.le_of_ble_eq_true rfl)
  rw [lg_entry_eq]
  generalize (lg_sl ([.ref h0]) ++ List.replicate (2 - (lg_sl ([.ref h0])).length) Slot.unset).toArray = ls at hl ⊢
  have hl : lv_has ls 2 [(0, .ref h0)] := hl
  refine lv_aload_n hx hb dX10_init_0 rfl (lv_at hl 0 rfl) ?_
  refine W.objInit hx hb hown (hts (.methodLink RX10 3 objectInit) k_X10_init_methodLink_RX10_3_objectInit) (hts (.instanceMethod objectInit) k_X10_init_instanceMethod_objectInit) (hts (.code objectInit ⟨#[0xb1]⟩ 1 none) k_X10_init_code_objectInit_0xb1_1_none) rfl (by rw [hml]; exact hl.1) rfl dX10_init_1 (Nat.le_of_ble_eq_true rfl) (Nat.le_of_ble_eq_true rfl) ?_
  refine W.eq (g2 := F0 m 4 ls []) rfl ?_
  refine lv_aload_n hx hb dX10_init_4 rfl (lv_at hl 0 rfl) ?_
  refine lv_bipush (v := 12) hx hb dX10_init_5 (by decide) ?_
  refine va_newa (atype := .int) (ty := .int) (N' := 12) (a0 := (12, .inl (fun _ => 0))) hx hb (hts (.arrayClass .int) k_X10_init_arrayClass_int) rfl hK hP hD hS hA (z_newi 12) (by decide) (by decide) (by decide) (Nat.le_of_ble_eq_true rfl) (Nat.le_of_ble_eq_true rfl) dX10_init_7 (fun q1 kq1 H hK hP hD hS => ?_)
  refine W.widen (k := 1) (n := 12) (by omega) (by omega) ?_
  have hP : va_P (dC, dI) vwCl [(h0, .inr (9, [.null, .null, .null, .null, .int 0, .int 0])), (q1, .inl (kq1, 12, .inl (fun _ => 0)))] H := hP
  have hD : va_D A [(h0, .inr (9, [.null, .null, .null, .null, .int 0, .int 0])), (q1, .inl (kq1, 12, .inl (fun _ => 0)))] := hD
  have hK : va_K (dC, dI) vwCl [(kq1, .int)] s := hK
  refine va_putF (D := (dC, dI)) (ci := 9) (v := .ref q1) (ty := (.array .int)) (C := RX10) (T := TX10) (N := 6) hx hb hts i_X10_init_X10 tyX10 tyX10_ok nmX10 hown hK hP hD hS 0 rfl rfl 0 (by decide) (hts (.fieldLink RX10 9 "StatementRules2$Told" "above" "[I") k_X10_init_fieldLink_RX10_9_SR_Told_above_I) (fun _ h9 => h9) rfl hin rfl (by decide +kernel) rfl rfl (Nat.le_of_ble_eq_true rfl) dX10_init_9 (fun H locs hP hD hS => ?_)
  have hP : va_P (dC, dI) vwCl [(h0, .inr (9, [.ref q1, .null, .null, .null, .int 0, .int 0])), (q1, .inl (kq1, 12, .inl (fun _ => 0)))] H := hP
  have hD : va_D A [(h0, .inr (9, [.ref q1, .null, .null, .null, .int 0, .int 0])), (q1, .inl (kq1, 12, .inl (fun _ => 0)))] := hD
  refine lv_aload_n hx hb dX10_init_12 rfl (lv_at hl 0 rfl) ?_
  refine lv_bipush (v := 8) hx hb dX10_init_13 (by decide) ?_
  refine va_newa (atype := .int) (ty := .int) (N' := 8) (a0 := (8, .inl (fun _ => 0))) hx hb (hts (.arrayClass .int) k_X10_init_arrayClass_int) rfl hK hP hD hS hA (z_newi 8) (by decide) (by decide) (by decide) (Nat.le_of_ble_eq_true rfl) (Nat.le_of_ble_eq_true rfl) dX10_init_15 (fun q2 kq2 H hK hP hD hS => ?_)
  refine W.widen (k := 2) (n := 20) (by omega) (by omega) ?_
  have hP : va_P (dC, dI) vwCl [(h0, .inr (9, [.ref q1, .null, .null, .null, .int 0, .int 0])), (q1, .inl (kq1, 12, .inl (fun _ => 0))), (q2, .inl (kq2, 8, .inl (fun _ => 0)))] H := hP
  have hD : va_D A [(h0, .inr (9, [.ref q1, .null, .null, .null, .int 0, .int 0])), (q1, .inl (kq1, 12, .inl (fun _ => 0))), (q2, .inl (kq2, 8, .inl (fun _ => 0)))] := hD
  have hK : va_K (dC, dI) vwCl [(kq1, .int), (kq2, .int)] s := hK
  refine va_putF (D := (dC, dI)) (ci := 9) (v := .ref q2) (ty := (.array .int)) (C := RX10) (T := TX10) (N := 6) hx hb hts i_X10_init_X10 tyX10 tyX10_ok nmX10 hown hK hP hD hS 0 rfl rfl 1 (by decide) (hts (.fieldLink RX10 15 "StatementRules2$Told" "isNull" "[I") k_X10_init_fieldLink_RX10_15_SR_Told_isNull_I) (fun _ h9 => h9) rfl hin rfl (by decide +kernel) rfl rfl (Nat.le_of_ble_eq_true rfl) dX10_init_17 (fun H locs hP hD hS => ?_)
  have hP : va_P (dC, dI) vwCl [(h0, .inr (9, [.ref q1, .ref q2, .null, .null, .int 0, .int 0])), (q1, .inl (kq1, 12, .inl (fun _ => 0))), (q2, .inl (kq2, 8, .inl (fun _ => 0)))] H := hP
  have hD : va_D A [(h0, .inr (9, [.ref q1, .ref q2, .null, .null, .int 0, .int 0])), (q1, .inl (kq1, 12, .inl (fun _ => 0))), (q2, .inl (kq2, 8, .inl (fun _ => 0)))] := hD
  refine lv_aload_n hx hb dX10_init_20 rfl (lv_at hl 0 rfl) ?_
  refine lv_bipush (v := 8) hx hb dX10_init_21 (by decide) ?_
  refine va_newa (atype := .int) (ty := .int) (N' := 8) (a0 := (8, .inl (fun _ => 0))) hx hb (hts (.arrayClass .int) k_X10_init_arrayClass_int) rfl hK hP hD hS hA (z_newi 8) (by decide) (by decide) (by decide) (Nat.le_of_ble_eq_true rfl) (Nat.le_of_ble_eq_true rfl) dX10_init_23 (fun q3 kq3 H hK hP hD hS => ?_)
  refine W.widen (k := 3) (n := 28) (by omega) (by omega) ?_
  have hP : va_P (dC, dI) vwCl [(h0, .inr (9, [.ref q1, .ref q2, .null, .null, .int 0, .int 0])), (q1, .inl (kq1, 12, .inl (fun _ => 0))), (q2, .inl (kq2, 8, .inl (fun _ => 0))), (q3, .inl (kq3, 8, .inl (fun _ => 0)))] H := hP
  have hD : va_D A [(h0, .inr (9, [.ref q1, .ref q2, .null, .null, .int 0, .int 0])), (q1, .inl (kq1, 12, .inl (fun _ => 0))), (q2, .inl (kq2, 8, .inl (fun _ => 0))), (q3, .inl (kq3, 8, .inl (fun _ => 0)))] := hD
  have hK : va_K (dC, dI) vwCl [(kq1, .int), (kq2, .int), (kq3, .int)] s := hK
  refine va_putF (D := (dC, dI)) (ci := 9) (v := .ref q3) (ty := (.array .int)) (C := RX10) (T := TX10) (N := 6) hx hb hts i_X10_init_X10 tyX10 tyX10_ok nmX10 hown hK hP hD hS 0 rfl rfl 2 (by decide) (hts (.fieldLink RX10 18 "StatementRules2$Told" "opening" "[I") k_X10_init_fieldLink_RX10_18_SR_Told_opening_I) (fun _ h9 => h9) rfl hin rfl (by decide +kernel) rfl rfl (Nat.le_of_ble_eq_true rfl) dX10_init_25 (fun H locs hP hD hS => ?_)
  have hP : va_P (dC, dI) vwCl [(h0, .inr (9, [.ref q1, .ref q2, .ref q3, .null, .int 0, .int 0])), (q1, .inl (kq1, 12, .inl (fun _ => 0))), (q2, .inl (kq2, 8, .inl (fun _ => 0))), (q3, .inl (kq3, 8, .inl (fun _ => 0)))] H := hP
  have hD : va_D A [(h0, .inr (9, [.ref q1, .ref q2, .ref q3, .null, .int 0, .int 0])), (q1, .inl (kq1, 12, .inl (fun _ => 0))), (q2, .inl (kq2, 8, .inl (fun _ => 0))), (q3, .inl (kq3, 8, .inl (fun _ => 0)))] := hD
  refine lv_aload_n hx hb dX10_init_28 rfl (lv_at hl 0 rfl) ?_
  refine lv_bipush (v := 8) hx hb dX10_init_29 (by decide) ?_
  refine va_newa (atype := .int) (ty := .int) (N' := 8) (a0 := (8, .inl (fun _ => 0))) hx hb (hts (.arrayClass .int) k_X10_init_arrayClass_int) rfl hK hP hD hS hA (z_newi 8) (by decide) (by decide) (by decide) (Nat.le_of_ble_eq_true rfl) (Nat.le_of_ble_eq_true rfl) dX10_init_31 (fun q4 kq4 H hK hP hD hS => ?_)
  refine W.widen (k := 4) (n := 36) (by omega) (by omega) ?_
  have hP : va_P (dC, dI) vwCl [(h0, .inr (9, [.ref q1, .ref q2, .ref q3, .null, .int 0, .int 0])), (q1, .inl (kq1, 12, .inl (fun _ => 0))), (q2, .inl (kq2, 8, .inl (fun _ => 0))), (q3, .inl (kq3, 8, .inl (fun _ => 0))), (q4, .inl (kq4, 8, .inl (fun _ => 0)))] H := hP
  have hD : va_D A [(h0, .inr (9, [.ref q1, .ref q2, .ref q3, .null, .int 0, .int 0])), (q1, .inl (kq1, 12, .inl (fun _ => 0))), (q2, .inl (kq2, 8, .inl (fun _ => 0))), (q3, .inl (kq3, 8, .inl (fun _ => 0))), (q4, .inl (kq4, 8, .inl (fun _ => 0)))] := hD
  have hK : va_K (dC, dI) vwCl [(kq1, .int), (kq2, .int), (kq3, .int), (kq4, .int)] s := hK
  refine va_putF (D := (dC, dI)) (ci := 9) (v := .ref q4) (ty := (.array .int)) (C := RX10) (T := TX10) (N := 6) hx hb hts i_X10_init_X10 tyX10 tyX10_ok nmX10 hown hK hP hD hS 0 rfl rfl 3 (by decide) (hts (.fieldLink RX10 21 "StatementRules2$Told" "closing" "[I") k_X10_init_fieldLink_RX10_21_SR_Told_closing_I) (fun _ h9 => h9) rfl hin rfl (by decide +kernel) rfl rfl (Nat.le_of_ble_eq_true rfl) dX10_init_33 (fun H locs hP hD hS => ?_)
  have hP : va_P (dC, dI) vwCl [(h0, .inr (9, [.ref q1, .ref q2, .ref q3, .ref q4, .int 0, .int 0])), (q1, .inl (kq1, 12, .inl (fun _ => 0))), (q2, .inl (kq2, 8, .inl (fun _ => 0))), (q3, .inl (kq3, 8, .inl (fun _ => 0))), (q4, .inl (kq4, 8, .inl (fun _ => 0)))] H := hP
  have hD : va_D A [(h0, .inr (9, [.ref q1, .ref q2, .ref q3, .ref q4, .int 0, .int 0])), (q1, .inl (kq1, 12, .inl (fun _ => 0))), (q2, .inl (kq2, 8, .inl (fun _ => 0))), (q3, .inl (kq3, 8, .inl (fun _ => 0))), (q4, .inl (kq4, 8, .inl (fun _ => 0)))] := hD
  refine lv_aload_n hx hb dX10_init_36 rfl (lv_at hl 0 rfl) ?_
  refine lv_iconst (v := 4) hx hb dX10_init_37 (by decide) ?_
  refine va_put (D := (dC, dI)) (ci := 9) (v := .int 4) (ty := .int) (C := RX10) (T := TX10) (N := 6) hx hb hts i_X10_init_X10 tyX10 tyX10_ok nmX10 hown hK hP hD hS 0 rfl rfl 4 (by decide) (hts (.fieldLink RX10 24 "StatementRules2$Told" "kindCount" "I") k_X10_init_fieldLink_RX10_24_SR_Told_kindCount_I) (fun _ h9 => h9) rfl (by decide +kernel) rfl rfl (Nat.le_of_ble_eq_true rfl) dX10_init_38 (fun H locs hP hD hS => ?_)
  have hP : va_P (dC, dI) vwCl [(h0, .inr (9, [.ref q1, .ref q2, .ref q3, .ref q4, .int 4, .int 0])), (q1, .inl (kq1, 12, .inl (fun _ => 0))), (q2, .inl (kq2, 8, .inl (fun _ => 0))), (q3, .inl (kq3, 8, .inl (fun _ => 0))), (q4, .inl (kq4, 8, .inl (fun _ => 0)))] H := hP
  have hD : va_D A [(h0, .inr (9, [.ref q1, .ref q2, .ref q3, .ref q4, .int 4, .int 0])), (q1, .inl (kq1, 12, .inl (fun _ => 0))), (q2, .inl (kq2, 8, .inl (fun _ => 0))), (q3, .inl (kq3, 8, .inl (fun _ => 0))), (q4, .inl (kq4, 8, .inl (fun _ => 0)))] := hD
  refine lv_aload_n hx hb dX10_init_41 rfl (lv_at hl 0 rfl) ?_
  refine va_get (D := (dC, dI)) (ci := 9) (v := .ref q1) (C := RX10) (T := TX10) (N := 6) hx hb hts i_X10_init_X10 hown hK hP 0 rfl rfl 0 (by decide) (hts (.fieldLink RX10 9 "StatementRules2$Told" "above" "[I") k_X10_init_fieldLink_RX10_9_SR_Told_above_I) (fun _ h9 => h9) rfl dX10_init_42 ?_
  refine lv_iconst (v := 0) hx hb dX10_init_45 (by decide) ?_
  refine lv_iconst (v := (-1)) hx hb dX10_init_46 (by decide) ?_
  refine va_iast hx hb hK hP hD hS 1 0 rfl rfl (by unfold vp_in; decide) dX10_init_47 (fun H locs hP hD hS => ?_)
  have hP : va_P (dC, dI) vwCl [(h0, .inr (9, [.ref q1, .ref q2, .ref q3, .ref q4, .int 4, .int 0])), (q1, .inl (kq1, 12, .inl (upd (fun _ => 0) 0 (-1)))), (q2, .inl (kq2, 8, .inl (fun _ => 0))), (q3, .inl (kq3, 8, .inl (fun _ => 0))), (q4, .inl (kq4, 8, .inl (fun _ => 0)))] H := hP
  have hD : va_D A [(h0, .inr (9, [.ref q1, .ref q2, .ref q3, .ref q4, .int 4, .int 0])), (q1, .inl (kq1, 12, .inl (upd (fun _ => 0) 0 (-1)))), (q2, .inl (kq2, 8, .inl (fun _ => 0))), (q3, .inl (kq3, 8, .inl (fun _ => 0))), (q4, .inl (kq4, 8, .inl (fun _ => 0)))] := hD
  refine lv_iconst (v := 0) hx hb dX10_init_48 (by decide) ?_
  refine lv_istore_n (lv' := [(1, .int 0), (0, .ref h0)]) hx hb dX10_init_49 rfl hl (by decide) rfl (fun ls hl => ?_)
  refine lv_iload_n hx hb dX10_init_50 rfl (lv_at hl 0 rfl) ?_
  refine lv_bipush (v := 8) hx hb dX10_init_51 (by decide) ?_
  refine lv_icmp_ge (tgt := 76) hx hb dX10_init_53 (by decide) (fun c9 => absurd c9 (by decide)) (fun _ => ?_)
  refine lv_aload_n hx hb dX10_init_56 rfl (lv_at hl 1 rfl) ?_
  refine va_get (D := (dC, dI)) (ci := 9) (v := .ref q3) (C := RX10) (T := TX10) (N := 6) hx hb hts i_X10_init_X10 hown hK hP 0 rfl rfl 2 (by decide) (hts (.fieldLink RX10 18 "StatementRules2$Told" "opening" "[I") k_X10_init_fieldLink_RX10_18_SR_Told_opening_I) (fun _ h9 => h9) rfl dX10_init_57 ?_
  refine lv_iload_n hx hb dX10_init_60 rfl (lv_at hl 0 rfl) ?_
  refine lv_iconst (v := (-1)) hx hb dX10_init_61 (by decide) ?_
  refine va_iast hx hb hK hP hD hS 3 2 rfl rfl (by unfold vp_in; decide) dX10_init_62 (fun H locs hP hD hS => ?_)
  obtain ⟨f5, hP, hD⟩ : ∃ (f5 : Nat → Int32), va_P (dC, dI) vwCl [(h0, .inr (9, [.ref q1, .ref q2, .ref q3, .ref q4, .int 4, .int 0])), (q1, .inl (kq1, 12, .inl (upd (fun _ => 0) 0 (-1)))), (q2, .inl (kq2, 8, .inl (fun _ => 0))), (q3, .inl (kq3, 8, .inl f5)), (q4, .inl (kq4, 8, .inl (fun _ => 0)))] H ∧ va_D A [(h0, .inr (9, [.ref q1, .ref q2, .ref q3, .ref q4, .int 4, .int 0])), (q1, .inl (kq1, 12, .inl (upd (fun _ => 0) 0 (-1)))), (q2, .inl (kq2, 8, .inl (fun _ => 0))), (q3, .inl (kq3, 8, .inl f5)), (q4, .inl (kq4, 8, .inl (fun _ => 0)))] := ⟨_, hP, hD⟩
  refine lv_aload_n hx hb dX10_init_63 rfl (lv_at hl 1 rfl) ?_
  refine va_get (D := (dC, dI)) (ci := 9) (v := .ref q4) (C := RX10) (T := TX10) (N := 6) hx hb hts i_X10_init_X10 hown hK hP 0 rfl rfl 3 (by decide) (hts (.fieldLink RX10 21 "StatementRules2$Told" "closing" "[I") k_X10_init_fieldLink_RX10_21_SR_Told_closing_I) (fun _ h9 => h9) rfl dX10_init_64 ?_
  refine lv_iload_n hx hb dX10_init_67 rfl (lv_at hl 0 rfl) ?_
  refine lv_iconst (v := (-1)) hx hb dX10_init_68 (by decide) ?_
  refine va_iast hx hb hK hP hD hS 4 3 rfl rfl (by unfold vp_in; decide) dX10_init_69 (fun H locs hP hD hS => ?_)
  obtain ⟨f6, hP, hD⟩ : ∃ (f6 : Nat → Int32), va_P (dC, dI) vwCl [(h0, .inr (9, [.ref q1, .ref q2, .ref q3, .ref q4, .int 4, .int 0])), (q1, .inl (kq1, 12, .inl (upd (fun _ => 0) 0 (-1)))), (q2, .inl (kq2, 8, .inl (fun _ => 0))), (q3, .inl (kq3, 8, .inl f5)), (q4, .inl (kq4, 8, .inl f6))] H ∧ va_D A [(h0, .inr (9, [.ref q1, .ref q2, .ref q3, .ref q4, .int 4, .int 0])), (q1, .inl (kq1, 12, .inl (upd (fun _ => 0) 0 (-1)))), (q2, .inl (kq2, 8, .inl (fun _ => 0))), (q3, .inl (kq3, 8, .inl f5)), (q4, .inl (kq4, 8, .inl f6))] := ⟨_, hP, hD⟩
  refine lv_iinc (v := 1) (lv' := [(1, .int 1), (0, .ref h0)]) hx hb dX10_init_70 hl (k := 0) rfl (by decide) (by decide) rfl (fun ls hl => ?_)
  refine lv_goto (tgt := 50) hx hb dX10_init_73 (by decide) ?_
  refine lv_iload_n hx hb dX10_init_50 rfl (lv_at hl 0 rfl) ?_
  refine lv_bipush (v := 8) hx hb dX10_init_51 (by decide) ?_
  refine lv_icmp_ge (tgt := 76) hx hb dX10_init_53 (by decide) (fun c9 => absurd c9 (by decide)) (fun _ => ?_)
  refine lv_aload_n hx hb dX10_init_56 rfl (lv_at hl 1 rfl) ?_
  refine va_get (D := (dC, dI)) (ci := 9) (v := .ref q3) (C := RX10) (T := TX10) (N := 6) hx hb hts i_X10_init_X10 hown hK hP 0 rfl rfl 2 (by decide) (hts (.fieldLink RX10 18 "StatementRules2$Told" "opening" "[I") k_X10_init_fieldLink_RX10_18_SR_Told_opening_I) (fun _ h9 => h9) rfl dX10_init_57 ?_
  refine lv_iload_n hx hb dX10_init_60 rfl (lv_at hl 0 rfl) ?_
  refine lv_iconst (v := (-1)) hx hb dX10_init_61 (by decide) ?_
  refine va_iast hx hb hK hP hD hS 3 2 rfl rfl (by unfold vp_in; decide) dX10_init_62 (fun H locs hP hD hS => ?_)
  obtain ⟨f7, hP, hD⟩ : ∃ (f7 : Nat → Int32), va_P (dC, dI) vwCl [(h0, .inr (9, [.ref q1, .ref q2, .ref q3, .ref q4, .int 4, .int 0])), (q1, .inl (kq1, 12, .inl (upd (fun _ => 0) 0 (-1)))), (q2, .inl (kq2, 8, .inl (fun _ => 0))), (q3, .inl (kq3, 8, .inl f7)), (q4, .inl (kq4, 8, .inl f6))] H ∧ va_D A [(h0, .inr (9, [.ref q1, .ref q2, .ref q3, .ref q4, .int 4, .int 0])), (q1, .inl (kq1, 12, .inl (upd (fun _ => 0) 0 (-1)))), (q2, .inl (kq2, 8, .inl (fun _ => 0))), (q3, .inl (kq3, 8, .inl f7)), (q4, .inl (kq4, 8, .inl f6))] := ⟨_, hP, hD⟩
  refine lv_aload_n hx hb dX10_init_63 rfl (lv_at hl 1 rfl) ?_
  refine va_get (D := (dC, dI)) (ci := 9) (v := .ref q4) (C := RX10) (T := TX10) (N := 6) hx hb hts i_X10_init_X10 hown hK hP 0 rfl rfl 3 (by decide) (hts (.fieldLink RX10 21 "StatementRules2$Told" "closing" "[I") k_X10_init_fieldLink_RX10_21_SR_Told_closing_I) (fun _ h9 => h9) rfl dX10_init_64 ?_
  refine lv_iload_n hx hb dX10_init_67 rfl (lv_at hl 0 rfl) ?_
  refine lv_iconst (v := (-1)) hx hb dX10_init_68 (by decide) ?_
  refine va_iast hx hb hK hP hD hS 4 3 rfl rfl (by unfold vp_in; decide) dX10_init_69 (fun H locs hP hD hS => ?_)
  obtain ⟨f8, hP, hD⟩ : ∃ (f8 : Nat → Int32), va_P (dC, dI) vwCl [(h0, .inr (9, [.ref q1, .ref q2, .ref q3, .ref q4, .int 4, .int 0])), (q1, .inl (kq1, 12, .inl (upd (fun _ => 0) 0 (-1)))), (q2, .inl (kq2, 8, .inl (fun _ => 0))), (q3, .inl (kq3, 8, .inl f7)), (q4, .inl (kq4, 8, .inl f8))] H ∧ va_D A [(h0, .inr (9, [.ref q1, .ref q2, .ref q3, .ref q4, .int 4, .int 0])), (q1, .inl (kq1, 12, .inl (upd (fun _ => 0) 0 (-1)))), (q2, .inl (kq2, 8, .inl (fun _ => 0))), (q3, .inl (kq3, 8, .inl f7)), (q4, .inl (kq4, 8, .inl f8))] := ⟨_, hP, hD⟩
  refine lv_iinc (v := 2) (lv' := [(1, .int 2), (0, .ref h0)]) hx hb dX10_init_70 hl (k := 0) rfl (by decide) (by decide) rfl (fun ls hl => ?_)
  refine lv_goto (tgt := 50) hx hb dX10_init_73 (by decide) ?_
  refine lv_iload_n hx hb dX10_init_50 rfl (lv_at hl 0 rfl) ?_
  refine lv_bipush (v := 8) hx hb dX10_init_51 (by decide) ?_
  refine lv_icmp_ge (tgt := 76) hx hb dX10_init_53 (by decide) (fun c9 => absurd c9 (by decide)) (fun _ => ?_)
  refine lv_aload_n hx hb dX10_init_56 rfl (lv_at hl 1 rfl) ?_
  refine va_get (D := (dC, dI)) (ci := 9) (v := .ref q3) (C := RX10) (T := TX10) (N := 6) hx hb hts i_X10_init_X10 hown hK hP 0 rfl rfl 2 (by decide) (hts (.fieldLink RX10 18 "StatementRules2$Told" "opening" "[I") k_X10_init_fieldLink_RX10_18_SR_Told_opening_I) (fun _ h9 => h9) rfl dX10_init_57 ?_
  refine lv_iload_n hx hb dX10_init_60 rfl (lv_at hl 0 rfl) ?_
  refine lv_iconst (v := (-1)) hx hb dX10_init_61 (by decide) ?_
  refine va_iast hx hb hK hP hD hS 3 2 rfl rfl (by unfold vp_in; decide) dX10_init_62 (fun H locs hP hD hS => ?_)
  obtain ⟨f9, hP, hD⟩ : ∃ (f9 : Nat → Int32), va_P (dC, dI) vwCl [(h0, .inr (9, [.ref q1, .ref q2, .ref q3, .ref q4, .int 4, .int 0])), (q1, .inl (kq1, 12, .inl (upd (fun _ => 0) 0 (-1)))), (q2, .inl (kq2, 8, .inl (fun _ => 0))), (q3, .inl (kq3, 8, .inl f9)), (q4, .inl (kq4, 8, .inl f8))] H ∧ va_D A [(h0, .inr (9, [.ref q1, .ref q2, .ref q3, .ref q4, .int 4, .int 0])), (q1, .inl (kq1, 12, .inl (upd (fun _ => 0) 0 (-1)))), (q2, .inl (kq2, 8, .inl (fun _ => 0))), (q3, .inl (kq3, 8, .inl f9)), (q4, .inl (kq4, 8, .inl f8))] := ⟨_, hP, hD⟩
  refine lv_aload_n hx hb dX10_init_63 rfl (lv_at hl 1 rfl) ?_
  refine va_get (D := (dC, dI)) (ci := 9) (v := .ref q4) (C := RX10) (T := TX10) (N := 6) hx hb hts i_X10_init_X10 hown hK hP 0 rfl rfl 3 (by decide) (hts (.fieldLink RX10 21 "StatementRules2$Told" "closing" "[I") k_X10_init_fieldLink_RX10_21_SR_Told_closing_I) (fun _ h9 => h9) rfl dX10_init_64 ?_
  refine lv_iload_n hx hb dX10_init_67 rfl (lv_at hl 0 rfl) ?_
  refine lv_iconst (v := (-1)) hx hb dX10_init_68 (by decide) ?_
  refine va_iast hx hb hK hP hD hS 4 3 rfl rfl (by unfold vp_in; decide) dX10_init_69 (fun H locs hP hD hS => ?_)
  obtain ⟨f10, hP, hD⟩ : ∃ (f10 : Nat → Int32), va_P (dC, dI) vwCl [(h0, .inr (9, [.ref q1, .ref q2, .ref q3, .ref q4, .int 4, .int 0])), (q1, .inl (kq1, 12, .inl (upd (fun _ => 0) 0 (-1)))), (q2, .inl (kq2, 8, .inl (fun _ => 0))), (q3, .inl (kq3, 8, .inl f9)), (q4, .inl (kq4, 8, .inl f10))] H ∧ va_D A [(h0, .inr (9, [.ref q1, .ref q2, .ref q3, .ref q4, .int 4, .int 0])), (q1, .inl (kq1, 12, .inl (upd (fun _ => 0) 0 (-1)))), (q2, .inl (kq2, 8, .inl (fun _ => 0))), (q3, .inl (kq3, 8, .inl f9)), (q4, .inl (kq4, 8, .inl f10))] := ⟨_, hP, hD⟩
  refine lv_iinc (v := 3) (lv' := [(1, .int 3), (0, .ref h0)]) hx hb dX10_init_70 hl (k := 0) rfl (by decide) (by decide) rfl (fun ls hl => ?_)
  refine lv_goto (tgt := 50) hx hb dX10_init_73 (by decide) ?_
  refine lv_iload_n hx hb dX10_init_50 rfl (lv_at hl 0 rfl) ?_
  refine lv_bipush (v := 8) hx hb dX10_init_51 (by decide) ?_
  refine lv_icmp_ge (tgt := 76) hx hb dX10_init_53 (by decide) (fun c9 => absurd c9 (by decide)) (fun _ => ?_)
  refine lv_aload_n hx hb dX10_init_56 rfl (lv_at hl 1 rfl) ?_
  refine va_get (D := (dC, dI)) (ci := 9) (v := .ref q3) (C := RX10) (T := TX10) (N := 6) hx hb hts i_X10_init_X10 hown hK hP 0 rfl rfl 2 (by decide) (hts (.fieldLink RX10 18 "StatementRules2$Told" "opening" "[I") k_X10_init_fieldLink_RX10_18_SR_Told_opening_I) (fun _ h9 => h9) rfl dX10_init_57 ?_
  refine lv_iload_n hx hb dX10_init_60 rfl (lv_at hl 0 rfl) ?_
  refine lv_iconst (v := (-1)) hx hb dX10_init_61 (by decide) ?_
  refine va_iast hx hb hK hP hD hS 3 2 rfl rfl (by unfold vp_in; decide) dX10_init_62 (fun H locs hP hD hS => ?_)
  obtain ⟨f11, hP, hD⟩ : ∃ (f11 : Nat → Int32), va_P (dC, dI) vwCl [(h0, .inr (9, [.ref q1, .ref q2, .ref q3, .ref q4, .int 4, .int 0])), (q1, .inl (kq1, 12, .inl (upd (fun _ => 0) 0 (-1)))), (q2, .inl (kq2, 8, .inl (fun _ => 0))), (q3, .inl (kq3, 8, .inl f11)), (q4, .inl (kq4, 8, .inl f10))] H ∧ va_D A [(h0, .inr (9, [.ref q1, .ref q2, .ref q3, .ref q4, .int 4, .int 0])), (q1, .inl (kq1, 12, .inl (upd (fun _ => 0) 0 (-1)))), (q2, .inl (kq2, 8, .inl (fun _ => 0))), (q3, .inl (kq3, 8, .inl f11)), (q4, .inl (kq4, 8, .inl f10))] := ⟨_, hP, hD⟩
  refine lv_aload_n hx hb dX10_init_63 rfl (lv_at hl 1 rfl) ?_
  refine va_get (D := (dC, dI)) (ci := 9) (v := .ref q4) (C := RX10) (T := TX10) (N := 6) hx hb hts i_X10_init_X10 hown hK hP 0 rfl rfl 3 (by decide) (hts (.fieldLink RX10 21 "StatementRules2$Told" "closing" "[I") k_X10_init_fieldLink_RX10_21_SR_Told_closing_I) (fun _ h9 => h9) rfl dX10_init_64 ?_
  refine lv_iload_n hx hb dX10_init_67 rfl (lv_at hl 0 rfl) ?_
  refine lv_iconst (v := (-1)) hx hb dX10_init_68 (by decide) ?_
  refine va_iast hx hb hK hP hD hS 4 3 rfl rfl (by unfold vp_in; decide) dX10_init_69 (fun H locs hP hD hS => ?_)
  obtain ⟨f12, hP, hD⟩ : ∃ (f12 : Nat → Int32), va_P (dC, dI) vwCl [(h0, .inr (9, [.ref q1, .ref q2, .ref q3, .ref q4, .int 4, .int 0])), (q1, .inl (kq1, 12, .inl (upd (fun _ => 0) 0 (-1)))), (q2, .inl (kq2, 8, .inl (fun _ => 0))), (q3, .inl (kq3, 8, .inl f11)), (q4, .inl (kq4, 8, .inl f12))] H ∧ va_D A [(h0, .inr (9, [.ref q1, .ref q2, .ref q3, .ref q4, .int 4, .int 0])), (q1, .inl (kq1, 12, .inl (upd (fun _ => 0) 0 (-1)))), (q2, .inl (kq2, 8, .inl (fun _ => 0))), (q3, .inl (kq3, 8, .inl f11)), (q4, .inl (kq4, 8, .inl f12))] := ⟨_, hP, hD⟩
  refine lv_iinc (v := 4) (lv' := [(1, .int 4), (0, .ref h0)]) hx hb dX10_init_70 hl (k := 0) rfl (by decide) (by decide) rfl (fun ls hl => ?_)
  refine lv_goto (tgt := 50) hx hb dX10_init_73 (by decide) ?_
  refine lv_iload_n hx hb dX10_init_50 rfl (lv_at hl 0 rfl) ?_
  refine lv_bipush (v := 8) hx hb dX10_init_51 (by decide) ?_
  refine lv_icmp_ge (tgt := 76) hx hb dX10_init_53 (by decide) (fun c9 => absurd c9 (by decide)) (fun _ => ?_)
  refine lv_aload_n hx hb dX10_init_56 rfl (lv_at hl 1 rfl) ?_
  refine va_get (D := (dC, dI)) (ci := 9) (v := .ref q3) (C := RX10) (T := TX10) (N := 6) hx hb hts i_X10_init_X10 hown hK hP 0 rfl rfl 2 (by decide) (hts (.fieldLink RX10 18 "StatementRules2$Told" "opening" "[I") k_X10_init_fieldLink_RX10_18_SR_Told_opening_I) (fun _ h9 => h9) rfl dX10_init_57 ?_
  refine lv_iload_n hx hb dX10_init_60 rfl (lv_at hl 0 rfl) ?_
  refine lv_iconst (v := (-1)) hx hb dX10_init_61 (by decide) ?_
  refine va_iast hx hb hK hP hD hS 3 2 rfl rfl (by unfold vp_in; decide) dX10_init_62 (fun H locs hP hD hS => ?_)
  obtain ⟨f13, hP, hD⟩ : ∃ (f13 : Nat → Int32), va_P (dC, dI) vwCl [(h0, .inr (9, [.ref q1, .ref q2, .ref q3, .ref q4, .int 4, .int 0])), (q1, .inl (kq1, 12, .inl (upd (fun _ => 0) 0 (-1)))), (q2, .inl (kq2, 8, .inl (fun _ => 0))), (q3, .inl (kq3, 8, .inl f13)), (q4, .inl (kq4, 8, .inl f12))] H ∧ va_D A [(h0, .inr (9, [.ref q1, .ref q2, .ref q3, .ref q4, .int 4, .int 0])), (q1, .inl (kq1, 12, .inl (upd (fun _ => 0) 0 (-1)))), (q2, .inl (kq2, 8, .inl (fun _ => 0))), (q3, .inl (kq3, 8, .inl f13)), (q4, .inl (kq4, 8, .inl f12))] := ⟨_, hP, hD⟩
  refine lv_aload_n hx hb dX10_init_63 rfl (lv_at hl 1 rfl) ?_
  refine va_get (D := (dC, dI)) (ci := 9) (v := .ref q4) (C := RX10) (T := TX10) (N := 6) hx hb hts i_X10_init_X10 hown hK hP 0 rfl rfl 3 (by decide) (hts (.fieldLink RX10 21 "StatementRules2$Told" "closing" "[I") k_X10_init_fieldLink_RX10_21_SR_Told_closing_I) (fun _ h9 => h9) rfl dX10_init_64 ?_
  refine lv_iload_n hx hb dX10_init_67 rfl (lv_at hl 0 rfl) ?_
  refine lv_iconst (v := (-1)) hx hb dX10_init_68 (by decide) ?_
  refine va_iast hx hb hK hP hD hS 4 3 rfl rfl (by unfold vp_in; decide) dX10_init_69 (fun H locs hP hD hS => ?_)
  obtain ⟨f14, hP, hD⟩ : ∃ (f14 : Nat → Int32), va_P (dC, dI) vwCl [(h0, .inr (9, [.ref q1, .ref q2, .ref q3, .ref q4, .int 4, .int 0])), (q1, .inl (kq1, 12, .inl (upd (fun _ => 0) 0 (-1)))), (q2, .inl (kq2, 8, .inl (fun _ => 0))), (q3, .inl (kq3, 8, .inl f13)), (q4, .inl (kq4, 8, .inl f14))] H ∧ va_D A [(h0, .inr (9, [.ref q1, .ref q2, .ref q3, .ref q4, .int 4, .int 0])), (q1, .inl (kq1, 12, .inl (upd (fun _ => 0) 0 (-1)))), (q2, .inl (kq2, 8, .inl (fun _ => 0))), (q3, .inl (kq3, 8, .inl f13)), (q4, .inl (kq4, 8, .inl f14))] := ⟨_, hP, hD⟩
  refine lv_iinc (v := 5) (lv' := [(1, .int 5), (0, .ref h0)]) hx hb dX10_init_70 hl (k := 0) rfl (by decide) (by decide) rfl (fun ls hl => ?_)
  refine lv_goto (tgt := 50) hx hb dX10_init_73 (by decide) ?_
  refine lv_iload_n hx hb dX10_init_50 rfl (lv_at hl 0 rfl) ?_
  refine lv_bipush (v := 8) hx hb dX10_init_51 (by decide) ?_
  refine lv_icmp_ge (tgt := 76) hx hb dX10_init_53 (by decide) (fun c9 => absurd c9 (by decide)) (fun _ => ?_)
  refine lv_aload_n hx hb dX10_init_56 rfl (lv_at hl 1 rfl) ?_
  refine va_get (D := (dC, dI)) (ci := 9) (v := .ref q3) (C := RX10) (T := TX10) (N := 6) hx hb hts i_X10_init_X10 hown hK hP 0 rfl rfl 2 (by decide) (hts (.fieldLink RX10 18 "StatementRules2$Told" "opening" "[I") k_X10_init_fieldLink_RX10_18_SR_Told_opening_I) (fun _ h9 => h9) rfl dX10_init_57 ?_
  refine lv_iload_n hx hb dX10_init_60 rfl (lv_at hl 0 rfl) ?_
  refine lv_iconst (v := (-1)) hx hb dX10_init_61 (by decide) ?_
  refine va_iast hx hb hK hP hD hS 3 2 rfl rfl (by unfold vp_in; decide) dX10_init_62 (fun H locs hP hD hS => ?_)
  obtain ⟨f15, hP, hD⟩ : ∃ (f15 : Nat → Int32), va_P (dC, dI) vwCl [(h0, .inr (9, [.ref q1, .ref q2, .ref q3, .ref q4, .int 4, .int 0])), (q1, .inl (kq1, 12, .inl (upd (fun _ => 0) 0 (-1)))), (q2, .inl (kq2, 8, .inl (fun _ => 0))), (q3, .inl (kq3, 8, .inl f15)), (q4, .inl (kq4, 8, .inl f14))] H ∧ va_D A [(h0, .inr (9, [.ref q1, .ref q2, .ref q3, .ref q4, .int 4, .int 0])), (q1, .inl (kq1, 12, .inl (upd (fun _ => 0) 0 (-1)))), (q2, .inl (kq2, 8, .inl (fun _ => 0))), (q3, .inl (kq3, 8, .inl f15)), (q4, .inl (kq4, 8, .inl f14))] := ⟨_, hP, hD⟩
  refine lv_aload_n hx hb dX10_init_63 rfl (lv_at hl 1 rfl) ?_
  refine va_get (D := (dC, dI)) (ci := 9) (v := .ref q4) (C := RX10) (T := TX10) (N := 6) hx hb hts i_X10_init_X10 hown hK hP 0 rfl rfl 3 (by decide) (hts (.fieldLink RX10 21 "StatementRules2$Told" "closing" "[I") k_X10_init_fieldLink_RX10_21_SR_Told_closing_I) (fun _ h9 => h9) rfl dX10_init_64 ?_
  refine lv_iload_n hx hb dX10_init_67 rfl (lv_at hl 0 rfl) ?_
  refine lv_iconst (v := (-1)) hx hb dX10_init_68 (by decide) ?_
  refine va_iast hx hb hK hP hD hS 4 3 rfl rfl (by unfold vp_in; decide) dX10_init_69 (fun H locs hP hD hS => ?_)
  obtain ⟨f16, hP, hD⟩ : ∃ (f16 : Nat → Int32), va_P (dC, dI) vwCl [(h0, .inr (9, [.ref q1, .ref q2, .ref q3, .ref q4, .int 4, .int 0])), (q1, .inl (kq1, 12, .inl (upd (fun _ => 0) 0 (-1)))), (q2, .inl (kq2, 8, .inl (fun _ => 0))), (q3, .inl (kq3, 8, .inl f15)), (q4, .inl (kq4, 8, .inl f16))] H ∧ va_D A [(h0, .inr (9, [.ref q1, .ref q2, .ref q3, .ref q4, .int 4, .int 0])), (q1, .inl (kq1, 12, .inl (upd (fun _ => 0) 0 (-1)))), (q2, .inl (kq2, 8, .inl (fun _ => 0))), (q3, .inl (kq3, 8, .inl f15)), (q4, .inl (kq4, 8, .inl f16))] := ⟨_, hP, hD⟩
  refine lv_iinc (v := 6) (lv' := [(1, .int 6), (0, .ref h0)]) hx hb dX10_init_70 hl (k := 0) rfl (by decide) (by decide) rfl (fun ls hl => ?_)
  refine lv_goto (tgt := 50) hx hb dX10_init_73 (by decide) ?_
  refine lv_iload_n hx hb dX10_init_50 rfl (lv_at hl 0 rfl) ?_
  refine lv_bipush (v := 8) hx hb dX10_init_51 (by decide) ?_
  refine lv_icmp_ge (tgt := 76) hx hb dX10_init_53 (by decide) (fun c9 => absurd c9 (by decide)) (fun _ => ?_)
  refine lv_aload_n hx hb dX10_init_56 rfl (lv_at hl 1 rfl) ?_
  refine va_get (D := (dC, dI)) (ci := 9) (v := .ref q3) (C := RX10) (T := TX10) (N := 6) hx hb hts i_X10_init_X10 hown hK hP 0 rfl rfl 2 (by decide) (hts (.fieldLink RX10 18 "StatementRules2$Told" "opening" "[I") k_X10_init_fieldLink_RX10_18_SR_Told_opening_I) (fun _ h9 => h9) rfl dX10_init_57 ?_
  refine lv_iload_n hx hb dX10_init_60 rfl (lv_at hl 0 rfl) ?_
  refine lv_iconst (v := (-1)) hx hb dX10_init_61 (by decide) ?_
  refine va_iast hx hb hK hP hD hS 3 2 rfl rfl (by unfold vp_in; decide) dX10_init_62 (fun H locs hP hD hS => ?_)
  obtain ⟨f17, hP, hD⟩ : ∃ (f17 : Nat → Int32), va_P (dC, dI) vwCl [(h0, .inr (9, [.ref q1, .ref q2, .ref q3, .ref q4, .int 4, .int 0])), (q1, .inl (kq1, 12, .inl (upd (fun _ => 0) 0 (-1)))), (q2, .inl (kq2, 8, .inl (fun _ => 0))), (q3, .inl (kq3, 8, .inl f17)), (q4, .inl (kq4, 8, .inl f16))] H ∧ va_D A [(h0, .inr (9, [.ref q1, .ref q2, .ref q3, .ref q4, .int 4, .int 0])), (q1, .inl (kq1, 12, .inl (upd (fun _ => 0) 0 (-1)))), (q2, .inl (kq2, 8, .inl (fun _ => 0))), (q3, .inl (kq3, 8, .inl f17)), (q4, .inl (kq4, 8, .inl f16))] := ⟨_, hP, hD⟩
  refine lv_aload_n hx hb dX10_init_63 rfl (lv_at hl 1 rfl) ?_
  refine va_get (D := (dC, dI)) (ci := 9) (v := .ref q4) (C := RX10) (T := TX10) (N := 6) hx hb hts i_X10_init_X10 hown hK hP 0 rfl rfl 3 (by decide) (hts (.fieldLink RX10 21 "StatementRules2$Told" "closing" "[I") k_X10_init_fieldLink_RX10_21_SR_Told_closing_I) (fun _ h9 => h9) rfl dX10_init_64 ?_
  refine lv_iload_n hx hb dX10_init_67 rfl (lv_at hl 0 rfl) ?_
  refine lv_iconst (v := (-1)) hx hb dX10_init_68 (by decide) ?_
  refine va_iast hx hb hK hP hD hS 4 3 rfl rfl (by unfold vp_in; decide) dX10_init_69 (fun H locs hP hD hS => ?_)
  obtain ⟨f18, hP, hD⟩ : ∃ (f18 : Nat → Int32), va_P (dC, dI) vwCl [(h0, .inr (9, [.ref q1, .ref q2, .ref q3, .ref q4, .int 4, .int 0])), (q1, .inl (kq1, 12, .inl (upd (fun _ => 0) 0 (-1)))), (q2, .inl (kq2, 8, .inl (fun _ => 0))), (q3, .inl (kq3, 8, .inl f17)), (q4, .inl (kq4, 8, .inl f18))] H ∧ va_D A [(h0, .inr (9, [.ref q1, .ref q2, .ref q3, .ref q4, .int 4, .int 0])), (q1, .inl (kq1, 12, .inl (upd (fun _ => 0) 0 (-1)))), (q2, .inl (kq2, 8, .inl (fun _ => 0))), (q3, .inl (kq3, 8, .inl f17)), (q4, .inl (kq4, 8, .inl f18))] := ⟨_, hP, hD⟩
  refine lv_iinc (v := 7) (lv' := [(1, .int 7), (0, .ref h0)]) hx hb dX10_init_70 hl (k := 0) rfl (by decide) (by decide) rfl (fun ls hl => ?_)
  refine lv_goto (tgt := 50) hx hb dX10_init_73 (by decide) ?_
  refine lv_iload_n hx hb dX10_init_50 rfl (lv_at hl 0 rfl) ?_
  refine lv_bipush (v := 8) hx hb dX10_init_51 (by decide) ?_
  refine lv_icmp_ge (tgt := 76) hx hb dX10_init_53 (by decide) (fun c9 => absurd c9 (by decide)) (fun _ => ?_)
  refine lv_aload_n hx hb dX10_init_56 rfl (lv_at hl 1 rfl) ?_
  refine va_get (D := (dC, dI)) (ci := 9) (v := .ref q3) (C := RX10) (T := TX10) (N := 6) hx hb hts i_X10_init_X10 hown hK hP 0 rfl rfl 2 (by decide) (hts (.fieldLink RX10 18 "StatementRules2$Told" "opening" "[I") k_X10_init_fieldLink_RX10_18_SR_Told_opening_I) (fun _ h9 => h9) rfl dX10_init_57 ?_
  refine lv_iload_n hx hb dX10_init_60 rfl (lv_at hl 0 rfl) ?_
  refine lv_iconst (v := (-1)) hx hb dX10_init_61 (by decide) ?_
  refine va_iast hx hb hK hP hD hS 3 2 rfl rfl (by unfold vp_in; decide) dX10_init_62 (fun H locs hP hD hS => ?_)
  obtain ⟨f19, hP, hD⟩ : ∃ (f19 : Nat → Int32), va_P (dC, dI) vwCl [(h0, .inr (9, [.ref q1, .ref q2, .ref q3, .ref q4, .int 4, .int 0])), (q1, .inl (kq1, 12, .inl (upd (fun _ => 0) 0 (-1)))), (q2, .inl (kq2, 8, .inl (fun _ => 0))), (q3, .inl (kq3, 8, .inl f19)), (q4, .inl (kq4, 8, .inl f18))] H ∧ va_D A [(h0, .inr (9, [.ref q1, .ref q2, .ref q3, .ref q4, .int 4, .int 0])), (q1, .inl (kq1, 12, .inl (upd (fun _ => 0) 0 (-1)))), (q2, .inl (kq2, 8, .inl (fun _ => 0))), (q3, .inl (kq3, 8, .inl f19)), (q4, .inl (kq4, 8, .inl f18))] := ⟨_, hP, hD⟩
  refine lv_aload_n hx hb dX10_init_63 rfl (lv_at hl 1 rfl) ?_
  refine va_get (D := (dC, dI)) (ci := 9) (v := .ref q4) (C := RX10) (T := TX10) (N := 6) hx hb hts i_X10_init_X10 hown hK hP 0 rfl rfl 3 (by decide) (hts (.fieldLink RX10 21 "StatementRules2$Told" "closing" "[I") k_X10_init_fieldLink_RX10_21_SR_Told_closing_I) (fun _ h9 => h9) rfl dX10_init_64 ?_
  refine lv_iload_n hx hb dX10_init_67 rfl (lv_at hl 0 rfl) ?_
  refine lv_iconst (v := (-1)) hx hb dX10_init_68 (by decide) ?_
  refine va_iast hx hb hK hP hD hS 4 3 rfl rfl (by unfold vp_in; decide) dX10_init_69 (fun H locs hP hD hS => ?_)
  obtain ⟨f20, hP, hD⟩ : ∃ (f20 : Nat → Int32), va_P (dC, dI) vwCl [(h0, .inr (9, [.ref q1, .ref q2, .ref q3, .ref q4, .int 4, .int 0])), (q1, .inl (kq1, 12, .inl (upd (fun _ => 0) 0 (-1)))), (q2, .inl (kq2, 8, .inl (fun _ => 0))), (q3, .inl (kq3, 8, .inl f19)), (q4, .inl (kq4, 8, .inl f20))] H ∧ va_D A [(h0, .inr (9, [.ref q1, .ref q2, .ref q3, .ref q4, .int 4, .int 0])), (q1, .inl (kq1, 12, .inl (upd (fun _ => 0) 0 (-1)))), (q2, .inl (kq2, 8, .inl (fun _ => 0))), (q3, .inl (kq3, 8, .inl f19)), (q4, .inl (kq4, 8, .inl f20))] := ⟨_, hP, hD⟩
  refine lv_iinc (v := 8) (lv' := [(1, .int 8), (0, .ref h0)]) hx hb dX10_init_70 hl (k := 0) rfl (by decide) (by decide) rfl (fun ls hl => ?_)
  refine lv_goto (tgt := 50) hx hb dX10_init_73 (by decide) ?_
  refine lv_iload_n hx hb dX10_init_50 rfl (lv_at hl 0 rfl) ?_
  refine lv_bipush (v := 8) hx hb dX10_init_51 (by decide) ?_
  refine lv_icmp_ge (tgt := 76) hx hb dX10_init_53 (by decide) (fun _ => ?_) (fun c9 => absurd (by decide) c9)
  have hP9 := hP.sub (ws' := [(h0, .inr (9, [.ref q1, .ref q2, .ref q3, .ref q4, .int 4, .int 0])), (q1, .inl (kq1, 12, .inl (upd (fun _ => 0) 0 (-1)))), (q2, .inl (kq2, 8, .inl (fun _ => 0))), (q3, .inl (kq3, 8, .inl f19)), (q4, .inl (kq4, 8, .inl f20))]) [0, 1, 2, 3, 4] rfl
  have hD9 := hD.sub (ws' := [(h0, .inr (9, [.ref q1, .ref q2, .ref q3, .ref q4, .int 4, .int 0])), (q1, .inl (kq1, 12, .inl (upd (fun _ => 0) 0 (-1)))), (q2, .inl (kq2, 8, .inl (fun _ => 0))), (q3, .inl (kq3, 8, .inl f19)), (q4, .inl (kq4, 8, .inl f20))]) [0, 1, 2, 3, 4] (by decide) rfl
  have hK9 := hK.sub (tys' := [(kq1, .int), (kq2, .int), (kq3, .int), (kq4, .int)]) [0, 1, 2, 3] rfl
  exact W.vret hx hb hr (fun t ht hW => ⟨⟨(), rfl, trivial, q1, kq1, q2, kq2, q3, kq3, q4, kq4, f19, f20, by rw [ht]; exact hP9, va_K.moved hW.alike hK9, hD9⟩, hS.F ht⟩) hS.2.2 dX10_init_76
theorem k_X1_init_methodLink_RX1_3_objectInit : Cond.methodLink RX1 3 objectInit ∈ wzX1_init := List.mem_cons_of_mem _ (List.mem_append_left _ (List.mem_of_getElem? (i := 0) rfl))
theorem k_X1_init_instanceMethod_objectInit : Cond.instanceMethod objectInit ∈ wzX1_init := List.mem_cons_of_mem _ (List.mem_append_left _ (List.mem_of_getElem? (i := 1) rfl))
theorem k_X1_init_code_objectInit_0xb1_1_none : Cond.code objectInit ⟨#[0xb1]⟩ 1 none ∈ wzX1_init := List.mem_cons_of_mem _ (List.mem_append_left _ (List.mem_of_getElem? (i := 2) rfl))
theorem df_X4 : ∀ j, j < 4 → defaultValue (tyX4 j) = vp_V [.null, .null, .null, .int 0] j := by decide +kernel
theorem i_X1_init_X4 : ∀ w ∈ wsX40, w ∈ wzX1_init := fun _ h => List.mem_cons_of_mem _ (List.mem_append_right _ (List.mem_append_left _ (h)))
theorem k_X1_init_classLink_RX1_9_RX4 : Cond.classLink RX1 9 RX4 ∈ wzX1_init := List.mem_cons_of_mem _ (List.mem_append_left _ (List.mem_of_getElem? (i := 3) rfl))
theorem k_X1_init_instantiable_RX4_4 : Cond.instantiable RX4 4 ∈ wzX1_init := List.mem_cons_of_mem _ (List.mem_append_left _ (List.mem_of_getElem? (i := 4) rfl))
theorem k_X1_init_initialized_RX4 : Cond.initialized RX4 ∈ wzX1_init := List.mem_cons_of_mem _ (List.mem_append_left _ (List.mem_of_getElem? (i := 5) rfl))
theorem k_X1_init_instanceMethod_yX4_init : Cond.instanceMethod yX4_init ∈ wzX1_init := List.mem_cons_of_mem _ (List.mem_append_left _ (List.mem_of_getElem? (i := 6) rfl))
theorem k_X1_init_fieldLink_RX1_12_SR_Formulas_names_LSR_Names : Cond.fieldLink RX1 12 "StatementRules2$Formulas" "names" "LStatementRules2$Names;" ∈ wzX1_init := List.mem_cons_of_mem _ (List.mem_append_left _ (List.mem_of_getElem? (i := 7) rfl))
theorem i_X1_init_X7 : ∀ w ∈ wsX70, w ∈ wzX1_init := fun _ h => List.mem_cons_of_mem _ (List.mem_append_right _ (List.mem_append_right _ (List.mem_append_left _ (h))))
theorem k_X1_init_fieldLink_RX1_18_SR_Formulas_tokens_LSR_Tokens : Cond.fieldLink RX1 18 "StatementRules2$Formulas" "tokens" "LStatementRules2$Tokens;" ∈ wzX1_init := List.mem_cons_of_mem _ (List.mem_append_left _ (List.mem_of_getElem? (i := 8) rfl))
theorem k_X1_init_fieldLink_RX1_22_SR_Formulas_code_LSR_Code : Cond.fieldLink RX1 22 "StatementRules2$Formulas" "code" "LStatementRules2$Code;" ∈ wzX1_init := List.mem_cons_of_mem _ (List.mem_append_left _ (List.mem_of_getElem? (i := 9) rfl))
theorem k_X1_init_fieldLink_RX1_26_SR_Formulas_told_LSR_Told : Cond.fieldLink RX1 26 "StatementRules2$Formulas" "told" "LStatementRules2$Told;" ∈ wzX1_init := List.mem_cons_of_mem _ (List.mem_append_left _ (List.mem_of_getElem? (i := 10) rfl))
set_option maxHeartbeats 4000000 in
set_option maxRecDepth 100000 in
theorem c_X1_init (l : Launch) (dC : Nat → ClassId) (dI : Nat → Nat → Nat) (sz : Nat) (h0 : Nat) (q9 : Nat) (q0 : Nat) (q10 : Nat) : Met l yX1_init wzX1_init ({ frames := 2, cells := 4, slots := 388, locals := 120 }) (va_Pc [.ref h0, .ref q9, .ref q0, .ref q10] (zPre dC dI sz [(h0, .inr (6, [.null, .null, .null, .null, .int 0, .int 0, .int 0, .null, .int 0, .int 0, .int 0]))] [])) (va_Qv (fun (_ : Unit) => True) (fun (_ : Unit) (t : State) => ∃ (q4 : Nat), ∃ (qn : Nat), ∃ (kn : ClassId), ∃ (qc : Nat), ∃ (kc : ClassId), ∃ (qf : Nat), ∃ (kf : ClassId), zPost dC dI (va_A [(h0, .inr (6, [.null, .null, .null, .null, .int 0, .int 0, .int 0, .null, .int 0, .int 0, .int 0]))] sz) [(h0, .inr (6, [.ref q9, .ref q0, .ref q10, .ref q4, .int 0, .int 0, .int 0, .null, .int 0, .int 0, .int 0])), (q4, .inr (3, [.ref qn, .ref qc, .ref qf, .int 0])), (qn, .inl (kn, 128, .inr (.inl (fun _ => 0)))), (qc, .inl (kc, 128, .inl (fun _ => 0))), (qf, .inl (kf, 128, .inl (fun _ => 0)))] [(kn, .long), (kc, .int), (kf, .int)] t) (va_A [(h0, .inr (6, [.null, .null, .null, .null, .int 0, .int 0, .int 0, .null, .int 0, .int 0, .int 0]))] sz)) 4 388 (va_A [(h0, .inr (6, [.null, .null, .null, .null, .int 0, .int 0, .int 0, .null, .int 0, .int 0, .int 0]))] sz) := by
  refine Met.ofW (cc := cX1_init) (maxL := 4) (ret := none) (by decide) rfl ?_
  intro p e s m args below meth c s₁ B hml hv
  obtain ⟨rfl, hsz, hZ, hP, hK, hD0⟩ := hv
  have hx := B.exec
  have hb := B.bytes
  have hr := B.returns
  have hts := atoms_spec (ws := wzX1_init) B.pre
  have hown : s.vm.findClass RX1 = some m.cls := findClass_of_methodNamed B.named
  have hlocks := B.notSynchronized
  have hin : meth.name = "<init>" := (name_of_methodNamed B.named B.method).1
  subst hsz
  have hD := hD0.self (sz := s.heap.size)
  generalize hAe : va_A [(h0, .inr (6, [.null, .null, .null, .null, .int 0, .int 0, .int 0, .null, .int 0, .int 0, .int 0]))] s.heap.size = A at hD ⊢
  have hA : ∀ q : Nat, s.heap.size ≤ q → A q := fun q h => by rw [← hAe]; exact Or.inr h
  have hS : va_S A s.heap s.heap [] := va_S.rf
  have hP : va_P (dC, dI) vwCl [(h0, .inr (6, [.null, .null, .null, .null, .int 0, .int 0, .int 0, .null, .int 0, .int 0, .int 0]))] s.heap := hP
  have hl := lv_entry ([.ref h0, .ref q9, .ref q0, .ref q10]) (n := 4) (Nat.le_of_ble_eq_true rfl)
  rw [lg_entry_eq]
  generalize (lg_sl ([.ref h0, .ref q9, .ref q0, .ref q10]) ++ List.replicate (4 - (lg_sl ([.ref h0, .ref q9, .ref q0, .ref q10])).length) Slot.unset).toArray = ls at hl ⊢
  have hl : lv_has ls 4 [(0, .ref h0), (1, .ref q9), (2, .ref q0), (3, .ref q10)] := hl
  refine lv_aload_n hx hb dX1_init_0 rfl (lv_at hl 0 rfl) ?_
  refine W.objInit hx hb hown (hts (.methodLink RX1 3 objectInit) k_X1_init_methodLink_RX1_3_objectInit) (hts (.instanceMethod objectInit) k_X1_init_instanceMethod_objectInit) (hts (.code objectInit ⟨#[0xb1]⟩ 1 none) k_X1_init_code_objectInit_0xb1_1_none) rfl (by rw [hml]; exact hl.1) rfl dX1_init_1 (Nat.le_of_ble_eq_true rfl) (Nat.le_of_ble_eq_true rfl) ?_
  refine W.eq (g2 := F0 m 4 ls []) rfl ?_
  refine lv_aload_n hx hb dX1_init_4 rfl (lv_at hl 0 rfl) ?_
  refine va_new (ci := 3) (fs := [.null, .null, .null, .int 0]) (C := RX4) (T := TX4) (N := 4) hx hb hts i_X1_init_X4 tyX4 tyX4_ok hown (hts (.classLink RX1 9 RX4) k_X1_init_classLink_RX1_9_RX4) (hts (.instantiable RX4 4) k_X1_init_instantiable_RX4_4) (hts (.initialized RX4) k_X1_init_initialized_RX4) hK hP hD hS hA rfl df_X4 (Nat.le_of_ble_eq_true rfl) (Nat.le_of_ble_eq_true rfl) dX1_init_5 (fun q1 H hP hD hS => ?_)
  refine W.widen (k := 1) (n := 4) (by omega) (by omega) ?_
  have hP : va_P (dC, dI) vwCl [(h0, .inr (6, [.null, .null, .null, .null, .int 0, .int 0, .int 0, .null, .int 0, .int 0, .int 0])), (q1, .inr (3, [.null, .null, .null, .int 0]))] H := hP
  have hD : va_D A [(h0, .inr (6, [.null, .null, .null, .null, .int 0, .int 0, .int 0, .null, .int 0, .int 0, .int 0])), (q1, .inr (3, [.null, .null, .null, .int 0]))] := hD
  refine lv_dup hx hb dX1_init_8 rfl ?_
  have hPc := hP.sub (ws' := [(q1, .inr (3, [.null, .null, .null, .int 0]))]) [1] rfl
  have hDc := hD.sub (ws' := [(q1, .inr (3, [.null, .null, .null, .int 0]))]) [1] (by decide) rfl
  have hKc := hK.sub (tys' := []) [] rfl
  have hFc := va_free (wc := [(q1, .inr (3, [.null, .null, .null, .int 0]))]) hD hS hA [1] rfl
  refine va_callv (va_runIN (As := []) (rest := [.ref q1, .ref h0]) ⟨hx, hb, hml, hown, hts⟩ (c_X4_init l dC dI _ q1) ⟨va_cnB 0 hts hX1_init_X4_init_n11 rfl rfl rfl (hZ.1 (.methodLinkNest RX1 11 yX4_init "StatementRules2") (by decide +kernel)) (hts (.initialized RX4) k_X1_init_initialized_RX4) (by decide +kernel) ⟨Nat.le_of_ble_eq_true rfl, Nat.le_of_ble_eq_true rfl⟩, rfl, (hts (.instanceMethod yX4_init) k_X1_init_instanceMethod_yX4_init)⟩ ⟨zPre.blind, zPre.go hZ hPc hKc hDc⟩ rfl rfl hl.1 rfl (lv_room (Nat.le_of_ble_eq_true rfl)) dX1_init_9 ⟨Nat.le_of_ble_eq_true rfl, Nat.le_of_ble_eq_true rfl⟩) hS (fun q _ h => hFc q h) hFc (fun u9 t9 H1 locs ht hvm hw hB hz1 hk1 hS => ?_)
  obtain ⟨qn_3, kn_4, qc_5, kc_6, qf_7, kf_8, hP1, hK1, hD1⟩ := hB
  rw [ht] at hP1
  have hK1 := va_K.moved hvm.symm hK1
  obtain ⟨hP, hD⟩ := va_join (wr := [(h0, .inr (6, [.null, .null, .null, .null, .int 0, .int 0, .int 0, .null, .int 0, .int 0, .int 0]))]) (w1 := [(q1, .inr (3, [.ref qn_3, .ref qc_5, .ref qf_7, .int 0])), (qn_3, .inl (kn_4, 128, .inr (.inl (fun _ => 0)))), (qc_5, .inl (kc_6, 128, .inl (fun _ => 0))), (qf_7, .inl (kf_8, 128, .inl (fun _ => 0)))]) hP hD [1] [0] rfl rfl (by decide) (by decide) hk1 hFc hP1 hD1
  have hK := hK.app hK1
  generalize H1 = H at hP hS ⊢
  have hP : va_P (dC, dI) vwCl [(h0, .inr (6, [.null, .null, .null, .null, .int 0, .int 0, .int 0, .null, .int 0, .int 0, .int 0])), (q1, .inr (3, [.ref qn_3, .ref qc_5, .ref qf_7, .int 0])), (qn_3, .inl (kn_4, 128, .inr (.inl (fun _ => 0)))), (qc_5, .inl (kc_6, 128, .inl (fun _ => 0))), (qf_7, .inl (kf_8, 128, .inl (fun _ => 0)))] H := hP
  have hD : va_D A [(h0, .inr (6, [.null, .null, .null, .null, .int 0, .int 0, .int 0, .null, .int 0, .int 0, .int 0])), (q1, .inr (3, [.ref qn_3, .ref qc_5, .ref qf_7, .int 0])), (qn_3, .inl (kn_4, 128, .inr (.inl (fun _ => 0)))), (qc_5, .inl (kc_6, 128, .inl (fun _ => 0))), (qf_7, .inl (kf_8, 128, .inl (fun _ => 0)))] := hD
  have hK : va_K (dC, dI) vwCl [(kn_4, .long), (kc_6, .int), (kf_8, .int)] s := hK
  refine W.widen (k := 4) (n := 388) (by omega) (by omega) ?_
  refine va_putF (D := (dC, dI)) (ci := 6) (v := .ref q1) (ty := (.object "StatementRules2$Names")) (C := RX7) (T := TX7) (N := 11) hx hb hts i_X1_init_X7 tyX7 tyX7_ok nmX7 hown hK hP hD hS 0 rfl rfl 3 (by decide) (hts (.fieldLink RX1 12 "StatementRules2$Formulas" "names" "LStatementRules2$Names;") k_X1_init_fieldLink_RX1_12_SR_Formulas_names_LSR_Names) (fun _ h9 => h9) rfl hin rfl (by decide +kernel) rfl rfl (Nat.le_of_ble_eq_true rfl) dX1_init_12 (fun H locs hP hD hS => ?_)
  have hP : va_P (dC, dI) vwCl [(h0, .inr (6, [.null, .null, .null, .ref q1, .int 0, .int 0, .int 0, .null, .int 0, .int 0, .int 0])), (q1, .inr (3, [.ref qn_3, .ref qc_5, .ref qf_7, .int 0])), (qn_3, .inl (kn_4, 128, .inr (.inl (fun _ => 0)))), (qc_5, .inl (kc_6, 128, .inl (fun _ => 0))), (qf_7, .inl (kf_8, 128, .inl (fun _ => 0)))] H := hP
  have hD : va_D A [(h0, .inr (6, [.null, .null, .null, .ref q1, .int 0, .int 0, .int 0, .null, .int 0, .int 0, .int 0])), (q1, .inr (3, [.ref qn_3, .ref qc_5, .ref qf_7, .int 0])), (qn_3, .inl (kn_4, 128, .inr (.inl (fun _ => 0)))), (qc_5, .inl (kc_6, 128, .inl (fun _ => 0))), (qf_7, .inl (kf_8, 128, .inl (fun _ => 0)))] := hD
  refine lv_aload_n hx hb dX1_init_15 rfl (lv_at hl 0 rfl) ?_
  refine lv_aload_n hx hb dX1_init_16 rfl (lv_at hl 1 rfl) ?_
  refine va_putF (D := (dC, dI)) (ci := 6) (v := .ref q9) (ty := (.object "StatementRules2$Tokens")) (C := RX7) (T := TX7) (N := 11) hx hb hts i_X1_init_X7 tyX7 tyX7_ok nmX7 hown hK hP hD hS 0 rfl rfl 0 (by decide) (hts (.fieldLink RX1 18 "StatementRules2$Formulas" "tokens" "LStatementRules2$Tokens;") k_X1_init_fieldLink_RX1_18_SR_Formulas_tokens_LSR_Tokens) (fun _ h9 => h9) rfl hin rfl (by decide +kernel) rfl rfl (Nat.le_of_ble_eq_true rfl) dX1_init_17 (fun H locs hP hD hS => ?_)
  have hP : va_P (dC, dI) vwCl [(h0, .inr (6, [.ref q9, .null, .null, .ref q1, .int 0, .int 0, .int 0, .null, .int 0, .int 0, .int 0])), (q1, .inr (3, [.ref qn_3, .ref qc_5, .ref qf_7, .int 0])), (qn_3, .inl (kn_4, 128, .inr (.inl (fun _ => 0)))), (qc_5, .inl (kc_6, 128, .inl (fun _ => 0))), (qf_7, .inl (kf_8, 128, .inl (fun _ => 0)))] H := hP
  have hD : va_D A [(h0, .inr (6, [.ref q9, .null, .null, .ref q1, .int 0, .int 0, .int 0, .null, .int 0, .int 0, .int 0])), (q1, .inr (3, [.ref qn_3, .ref qc_5, .ref qf_7, .int 0])), (qn_3, .inl (kn_4, 128, .inr (.inl (fun _ => 0)))), (qc_5, .inl (kc_6, 128, .inl (fun _ => 0))), (qf_7, .inl (kf_8, 128, .inl (fun _ => 0)))] := hD
  refine lv_aload_n hx hb dX1_init_20 rfl (lv_at hl 0 rfl) ?_
  refine lv_aload_n hx hb dX1_init_21 rfl (lv_at hl 2 rfl) ?_
  refine va_putF (D := (dC, dI)) (ci := 6) (v := .ref q0) (ty := (.object "StatementRules2$Code")) (C := RX7) (T := TX7) (N := 11) hx hb hts i_X1_init_X7 tyX7 tyX7_ok nmX7 hown hK hP hD hS 0 rfl rfl 1 (by decide) (hts (.fieldLink RX1 22 "StatementRules2$Formulas" "code" "LStatementRules2$Code;") k_X1_init_fieldLink_RX1_22_SR_Formulas_code_LSR_Code) (fun _ h9 => h9) rfl hin rfl (by decide +kernel) rfl rfl (Nat.le_of_ble_eq_true rfl) dX1_init_22 (fun H locs hP hD hS => ?_)
  have hP : va_P (dC, dI) vwCl [(h0, .inr (6, [.ref q9, .ref q0, .null, .ref q1, .int 0, .int 0, .int 0, .null, .int 0, .int 0, .int 0])), (q1, .inr (3, [.ref qn_3, .ref qc_5, .ref qf_7, .int 0])), (qn_3, .inl (kn_4, 128, .inr (.inl (fun _ => 0)))), (qc_5, .inl (kc_6, 128, .inl (fun _ => 0))), (qf_7, .inl (kf_8, 128, .inl (fun _ => 0)))] H := hP
  have hD : va_D A [(h0, .inr (6, [.ref q9, .ref q0, .null, .ref q1, .int 0, .int 0, .int 0, .null, .int 0, .int 0, .int 0])), (q1, .inr (3, [.ref qn_3, .ref qc_5, .ref qf_7, .int 0])), (qn_3, .inl (kn_4, 128, .inr (.inl (fun _ => 0)))), (qc_5, .inl (kc_6, 128, .inl (fun _ => 0))), (qf_7, .inl (kf_8, 128, .inl (fun _ => 0)))] := hD
  refine lv_aload_n hx hb dX1_init_25 rfl (lv_at hl 0 rfl) ?_
  refine lv_aload_n hx hb dX1_init_26 rfl (lv_at hl 3 rfl) ?_
  refine va_putF (D := (dC, dI)) (ci := 6) (v := .ref q10) (ty := (.object "StatementRules2$Told")) (C := RX7) (T := TX7) (N := 11) hx hb hts i_X1_init_X7 tyX7 tyX7_ok nmX7 hown hK hP hD hS 0 rfl rfl 2 (by decide) (hts (.fieldLink RX1 26 "StatementRules2$Formulas" "told" "LStatementRules2$Told;") k_X1_init_fieldLink_RX1_26_SR_Formulas_told_LSR_Told) (fun _ h9 => h9) rfl hin rfl (by decide +kernel) rfl rfl (Nat.le_of_ble_eq_true rfl) dX1_init_27 (fun H locs hP hD hS => ?_)
  have hP : va_P (dC, dI) vwCl [(h0, .inr (6, [.ref q9, .ref q0, .ref q10, .ref q1, .int 0, .int 0, .int 0, .null, .int 0, .int 0, .int 0])), (q1, .inr (3, [.ref qn_3, .ref qc_5, .ref qf_7, .int 0])), (qn_3, .inl (kn_4, 128, .inr (.inl (fun _ => 0)))), (qc_5, .inl (kc_6, 128, .inl (fun _ => 0))), (qf_7, .inl (kf_8, 128, .inl (fun _ => 0)))] H := hP
  have hD : va_D A [(h0, .inr (6, [.ref q9, .ref q0, .ref q10, .ref q1, .int 0, .int 0, .int 0, .null, .int 0, .int 0, .int 0])), (q1, .inr (3, [.ref qn_3, .ref qc_5, .ref qf_7, .int 0])), (qn_3, .inl (kn_4, 128, .inr (.inl (fun _ => 0)))), (qc_5, .inl (kc_6, 128, .inl (fun _ => 0))), (qf_7, .inl (kf_8, 128, .inl (fun _ => 0)))] := hD
  have hP9 := hP.sub (ws' := [(h0, .inr (6, [.ref q9, .ref q0, .ref q10, .ref q1, .int 0, .int 0, .int 0, .null, .int 0, .int 0, .int 0])), (q1, .inr (3, [.ref qn_3, .ref qc_5, .ref qf_7, .int 0])), (qn_3, .inl (kn_4, 128, .inr (.inl (fun _ => 0)))), (qc_5, .inl (kc_6, 128, .inl (fun _ => 0))), (qf_7, .inl (kf_8, 128, .inl (fun _ => 0)))]) [0, 1, 2, 3, 4] rfl
  have hD9 := hD.sub (ws' := [(h0, .inr (6, [.ref q9, .ref q0, .ref q10, .ref q1, .int 0, .int 0, .int 0, .null, .int 0, .int 0, .int 0])), (q1, .inr (3, [.ref qn_3, .ref qc_5, .ref qf_7, .int 0])), (qn_3, .inl (kn_4, 128, .inr (.inl (fun _ => 0)))), (qc_5, .inl (kc_6, 128, .inl (fun _ => 0))), (qf_7, .inl (kf_8, 128, .inl (fun _ => 0)))]) [0, 1, 2, 3, 4] (by decide) rfl
  have hK9 := hK.sub (tys' := [(kn_4, .long), (kc_6, .int), (kf_8, .int)]) [0, 1, 2] rfl
  exact W.vret hx hb hr (fun t ht hW => ⟨⟨(), rfl, trivial, q1, qn_3, kn_4, qc_5, kc_6, qf_7, kf_8, by rw [ht]; exact hP9, va_K.moved hW.alike hK9, hD9⟩, hS.F ht⟩) hS.2.2 dX1_init_30
theorem k_X7_init_initialized_RX1 : Cond.initialized RX1 ∈ wzX7_init := List.mem_cons_of_mem _ (List.mem_append_left _ (List.mem_of_getElem? (i := 0) rfl))
theorem k_X7_init_methodLink_RX7_3_yX1_init : Cond.methodLink RX7 3 yX1_init ∈ wzX7_init := List.mem_cons_of_mem _ (List.mem_append_left _ (List.mem_of_getElem? (i := 1) rfl))
theorem k_X7_init_instanceMethod_yX1_init : Cond.instanceMethod yX1_init ∈ wzX7_init := List.mem_cons_of_mem _ (List.mem_append_left _ (List.mem_of_getElem? (i := 2) rfl))
theorem df_X6 : ∀ j, j < 6 → defaultValue (tyX6 j) = vp_V [.null, .null, .int 0, .int 0, .int 0, .int 0] j := by decide +kernel
theorem i_X7_init_X6 : ∀ w ∈ wsX60, w ∈ wzX7_init := fun _ h => List.mem_cons_of_mem _ (List.mem_append_right _ (List.mem_append_left _ (h)))
theorem k_X7_init_classLink_RX7_9_RX6 : Cond.classLink RX7 9 RX6 ∈ wzX7_init := List.mem_cons_of_mem _ (List.mem_append_left _ (List.mem_of_getElem? (i := 3) rfl))
theorem k_X7_init_instantiable_RX6_6 : Cond.instantiable RX6 6 ∈ wzX7_init := List.mem_cons_of_mem _ (List.mem_append_left _ (List.mem_of_getElem? (i := 4) rfl))
theorem k_X7_init_initialized_RX6 : Cond.initialized RX6 ∈ wzX7_init := List.mem_cons_of_mem _ (List.mem_append_left _ (List.mem_of_getElem? (i := 5) rfl))
theorem k_X7_init_instanceMethod_yX6_init : Cond.instanceMethod yX6_init ∈ wzX7_init := List.mem_cons_of_mem _ (List.mem_append_left _ (List.mem_of_getElem? (i := 6) rfl))
theorem k_X7_init_fieldLink_RX7_14_SR_Statements_opens_LSR_Opens : Cond.fieldLink RX7 14 "StatementRules2$Statements" "opens" "LStatementRules2$Opens;" ∈ wzX7_init := List.mem_cons_of_mem _ (List.mem_append_left _ (List.mem_of_getElem? (i := 7) rfl))
theorem i_X7_init_X7 : ∀ w ∈ wsX70, w ∈ wzX7_init := fun _ h => List.mem_cons_of_mem _ (List.mem_append_right _ (List.mem_append_right _ (List.mem_append_left _ (h))))
set_option maxHeartbeats 4000000 in
set_option maxRecDepth 100000 in
theorem c_X7_init (l : Launch) (dC : Nat → ClassId) (dI : Nat → Nat → Nat) (sz : Nat) (h0 : Nat) (q9 : Nat) (q0 : Nat) (q10 : Nat) : Met l yX7_init wzX7_init ({ frames := 3, cells := 7, slots := 954, locals := 180 }) (va_Pc [.ref h0, .ref q9, .ref q0, .ref q10] (zPre dC dI sz [(h0, .inr (6, [.null, .null, .null, .null, .int 0, .int 0, .int 0, .null, .int 0, .int 0, .int 0]))] [])) (va_Qv (fun (_ : Unit) => True) (fun (_ : Unit) (t : State) => ∃ (q4 : Nat), ∃ (qn : Nat), ∃ (kn : ClassId), ∃ (qc : Nat), ∃ (kc : ClassId), ∃ (qf : Nat), ∃ (kf : ClassId), ∃ (q6 : Nat), ∃ (qr : Nat), ∃ (qj : Nat), ∃ (kr : ClassId), ∃ (kj : ClassId), zPost dC dI (va_A [(h0, .inr (6, [.null, .null, .null, .null, .int 0, .int 0, .int 0, .null, .int 0, .int 0, .int 0]))] sz) [(h0, .inr (6, [.ref q9, .ref q0, .ref q10, .ref q4, .int 0, .int 0, .int 0, .ref q6, .int 0, .int 0, .int 0])), (q4, .inr (3, [.ref qn, .ref qc, .ref qf, .int 0])), (qn, .inl (kn, 128, .inr (.inl (fun _ => 0)))), (qc, .inl (kc, 128, .inl (fun _ => 0))), (qf, .inl (kf, 128, .inl (fun _ => 0))), (q6, .inr (5, [.ref qr, .ref qj, .int 0, .int 0, .int 0, .int 0])), (qr, .inl (kr, 400, .inr (.inr (.inr (.inr (fun _ => none)))))), (qj, .inl (kj, 160, .inl (fun _ => 0)))] [(kn, .long), (kc, .int), (kf, .int), (kr, .object "StatementRules2$Open"), (kj, .int)] t) (va_A [(h0, .inr (6, [.null, .null, .null, .null, .int 0, .int 0, .int 0, .null, .int 0, .int 0, .int 0]))] sz)) 7 954 (va_A [(h0, .inr (6, [.null, .null, .null, .null, .int 0, .int 0, .int 0, .null, .int 0, .int 0, .int 0]))] sz) := by
  refine Met.ofW (cc := cX7_init) (maxL := 4) (ret := none) (by decide) rfl ?_
  intro p e s m args below meth c s₁ B hml hv
  obtain ⟨rfl, hsz, hZ, hP, hK, hD0⟩ := hv
  have hx := B.exec
  have hb := B.bytes
  have hr := B.returns
  have hts := atoms_spec (ws := wzX7_init) B.pre
  have hown : s.vm.findClass RX7 = some m.cls := findClass_of_methodNamed B.named
  have hlocks := B.notSynchronized
  have hin : meth.name = "<init>" := (name_of_methodNamed B.named B.method).1
  subst hsz
  have hD := hD0.self (sz := s.heap.size)
  generalize hAe : va_A [(h0, .inr (6, [.null, .null, .null, .null, .int 0, .int 0, .int 0, .null, .int 0, .int 0, .int 0]))] s.heap.size = A at hD ⊢
  have hA : ∀ q : Nat, s.heap.size ≤ q → A q := fun q h => by rw [← hAe]; exact Or.inr h
  have hS : va_S A s.heap s.heap [] := va_S.rf
  have hP : va_P (dC, dI) vwCl [(h0, .inr (6, [.null, .null, .null, .null, .int 0, .int 0, .int 0, .null, .int 0, .int 0, .int 0]))] s.heap := hP
  have hl := lv_entry ([.ref h0, .ref q9, .ref q0, .ref q10]) (n := 4) (Nat.le_of_ble_eq_true rfl)
  rw [lg_entry_eq]
  generalize (lg_sl ([.ref h0, .ref q9, .ref q0, .ref q10]) ++ List.replicate (4 - (lg_sl ([.ref h0, .ref q9, .ref q0, .ref q10])).length) Slot.unset).toArray = ls at hl ⊢
  have hl : lv_has ls 4 [(0, .ref h0), (1, .ref q9), (2, .ref q0), (3, .ref q10)] := hl
  refine lv_aload_n hx hb dX7_init_0 rfl (lv_at hl 0 rfl) ?_
  refine lv_aload_n hx hb dX7_init_1 rfl (lv_at hl 1 rfl) ?_
  refine lv_aload_n hx hb dX7_init_2 rfl (lv_at hl 2 rfl) ?_
  refine lv_aload_n hx hb dX7_init_3 rfl (lv_at hl 3 rfl) ?_
  have hPc := hP.sub (ws' := [(h0, .inr (6, [.null, .null, .null, .null, .int 0, .int 0, .int 0, .null, .int 0, .int 0, .int 0]))]) [0] rfl
  have hDc := hD.sub (ws' := [(h0, .inr (6, [.null, .null, .null, .null, .int 0, .int 0, .int 0, .null, .int 0, .int 0, .int 0]))]) [0] (by decide) rfl
  have hKc := hK.sub (tys' := []) [] rfl
  have hFc := va_free (wc := [(h0, .inr (6, [.null, .null, .null, .null, .int 0, .int 0, .int 0, .null, .int 0, .int 0, .int 0]))]) hD hS hA [0] rfl
  refine va_callv (va_runI (As := [.ref q9, .ref q0, .ref q10]) (rest := []) ⟨hx, hb, hml, hown, hts⟩ (c_X1_init l dC dI _ h0 q9 q0 q10) (cwI 3 hts hX7_init_X1_init_i3 rfl rfl rfl (hts (.initialized RX1) k_X7_init_initialized_RX1) (hts (.methodLink RX7 3 yX1_init) k_X7_init_methodLink_RX7_3_yX1_init) (hts (.instanceMethod yX1_init) k_X7_init_instanceMethod_yX1_init) rfl (by decide +kernel) ⟨Nat.le_of_ble_eq_true rfl, Nat.le_of_ble_eq_true rfl⟩) ⟨zPre.blind, zPre.go hZ hPc hKc hDc⟩ rfl rfl hl.1 rfl (lv_room (Nat.le_of_ble_eq_true rfl)) dX7_init_4 ⟨Nat.le_of_ble_eq_true rfl, Nat.le_of_ble_eq_true rfl⟩) hS (fun q _ h => hFc q h) hFc (fun u9 t9 H1 locs ht hvm hw hB hz1 hk1 hS => ?_)
  obtain ⟨q4_2, qn_3, kn_4, qc_5, kc_6, qf_7, kf_8, hP1, hK1, hD1⟩ := hB
  rw [ht] at hP1
  have hK1 := va_K.moved hvm.symm hK1
  obtain ⟨hP, hD⟩ := va_join (wr := []) (w1 := [(h0, .inr (6, [.ref q9, .ref q0, .ref q10, .ref q4_2, .int 0, .int 0, .int 0, .null, .int 0, .int 0, .int 0])), (q4_2, .inr (3, [.ref qn_3, .ref qc_5, .ref qf_7, .int 0])), (qn_3, .inl (kn_4, 128, .inr (.inl (fun _ => 0)))), (qc_5, .inl (kc_6, 128, .inl (fun _ => 0))), (qf_7, .inl (kf_8, 128, .inl (fun _ => 0)))]) hP hD [0] [] rfl rfl (by decide) (by decide) hk1 hFc hP1 hD1
  have hK := hK.app hK1
  generalize H1 = H at hP hS ⊢
  have hP : va_P (dC, dI) vwCl [(h0, .inr (6, [.ref q9, .ref q0, .ref q10, .ref q4_2, .int 0, .int 0, .int 0, .null, .int 0, .int 0, .int 0])), (q4_2, .inr (3, [.ref qn_3, .ref qc_5, .ref qf_7, .int 0])), (qn_3, .inl (kn_4, 128, .inr (.inl (fun _ => 0)))), (qc_5, .inl (kc_6, 128, .inl (fun _ => 0))), (qf_7, .inl (kf_8, 128, .inl (fun _ => 0)))] H := hP
  have hD : va_D A [(h0, .inr (6, [.ref q9, .ref q0, .ref q10, .ref q4_2, .int 0, .int 0, .int 0, .null, .int 0, .int 0, .int 0])), (q4_2, .inr (3, [.ref qn_3, .ref qc_5, .ref qf_7, .int 0])), (qn_3, .inl (kn_4, 128, .inr (.inl (fun _ => 0)))), (qc_5, .inl (kc_6, 128, .inl (fun _ => 0))), (qf_7, .inl (kf_8, 128, .inl (fun _ => 0)))] := hD
  have hK : va_K (dC, dI) vwCl [(kn_4, .long), (kc_6, .int), (kf_8, .int)] s := hK
  refine W.widen (k := 4) (n := 388) (by omega) (by omega) ?_
  refine lv_aload_n hx hb dX7_init_7 rfl (lv_at hl 0 rfl) ?_
  refine va_new (ci := 5) (fs := [.null, .null, .int 0, .int 0, .int 0, .int 0]) (C := RX6) (T := TX6) (N := 6) hx hb hts i_X7_init_X6 tyX6 tyX6_ok hown (hts (.classLink RX7 9 RX6) k_X7_init_classLink_RX7_9_RX6) (hts (.instantiable RX6 6) k_X7_init_instantiable_RX6_6) (hts (.initialized RX6) k_X7_init_initialized_RX6) hK hP hD hS hA rfl df_X6 (Nat.le_of_ble_eq_true rfl) (Nat.le_of_ble_eq_true rfl) dX7_init_8 (fun q11 H hP hD hS => ?_)
  refine W.widen (k := 5) (n := 394) (by omega) (by omega) ?_
  have hP : va_P (dC, dI) vwCl [(h0, .inr (6, [.ref q9, .ref q0, .ref q10, .ref q4_2, .int 0, .int 0, .int 0, .null, .int 0, .int 0, .int 0])), (q4_2, .inr (3, [.ref qn_3, .ref qc_5, .ref qf_7, .int 0])), (qn_3, .inl (kn_4, 128, .inr (.inl (fun _ => 0)))), (qc_5, .inl (kc_6, 128, .inl (fun _ => 0))), (qf_7, .inl (kf_8, 128, .inl (fun _ => 0))), (q11, .inr (5, [.null, .null, .int 0, .int 0, .int 0, .int 0]))] H := hP
  have hD : va_D A [(h0, .inr (6, [.ref q9, .ref q0, .ref q10, .ref q4_2, .int 0, .int 0, .int 0, .null, .int 0, .int 0, .int 0])), (q4_2, .inr (3, [.ref qn_3, .ref qc_5, .ref qf_7, .int 0])), (qn_3, .inl (kn_4, 128, .inr (.inl (fun _ => 0)))), (qc_5, .inl (kc_6, 128, .inl (fun _ => 0))), (qf_7, .inl (kf_8, 128, .inl (fun _ => 0))), (q11, .inr (5, [.null, .null, .int 0, .int 0, .int 0, .int 0]))] := hD
  refine lv_dup hx hb dX7_init_11 rfl ?_
  have hPc := hP.sub (ws' := [(q11, .inr (5, [.null, .null, .int 0, .int 0, .int 0, .int 0]))]) [5] rfl
  have hDc := hD.sub (ws' := [(q11, .inr (5, [.null, .null, .int 0, .int 0, .int 0, .int 0]))]) [5] (by decide) rfl
  have hKc := hK.sub (tys' := []) [] rfl
  have hFc := va_free (wc := [(q11, .inr (5, [.null, .null, .int 0, .int 0, .int 0, .int 0]))]) hD hS hA [5] rfl
  refine va_callv (va_runIN (As := []) (rest := [.ref q11, .ref h0]) ⟨hx, hb, hml, hown, hts⟩ (c_X6_init l dC dI _ q11) ⟨va_cnB 0 hts hX7_init_X6_init_n11 rfl rfl rfl (hZ.1 (.methodLinkNest RX7 11 yX6_init "StatementRules2") (by decide +kernel)) (hts (.initialized RX6) k_X7_init_initialized_RX6) (by decide +kernel) ⟨Nat.le_of_ble_eq_true rfl, Nat.le_of_ble_eq_true rfl⟩, rfl, (hts (.instanceMethod yX6_init) k_X7_init_instanceMethod_yX6_init)⟩ ⟨zPre.blind, zPre.go hZ hPc hKc hDc⟩ rfl rfl hl.1 rfl (lv_room (Nat.le_of_ble_eq_true rfl)) dX7_init_12 ⟨Nat.le_of_ble_eq_true rfl, Nat.le_of_ble_eq_true rfl⟩) hS (fun q _ h => hFc q h) hFc (fun u9 t9 H1 locs ht hvm hw hB hz1 hk1 hS => ?_)
  obtain ⟨qr_13, qj_14, kr_15, kj_16, hP1, hK1, hD1⟩ := hB
  rw [ht] at hP1
  have hK1 := va_K.moved hvm.symm hK1
  obtain ⟨hP, hD⟩ := va_join (wr := [(h0, .inr (6, [.ref q9, .ref q0, .ref q10, .ref q4_2, .int 0, .int 0, .int 0, .null, .int 0, .int 0, .int 0])), (q4_2, .inr (3, [.ref qn_3, .ref qc_5, .ref qf_7, .int 0])), (qn_3, .inl (kn_4, 128, .inr (.inl (fun _ => 0)))), (qc_5, .inl (kc_6, 128, .inl (fun _ => 0))), (qf_7, .inl (kf_8, 128, .inl (fun _ => 0)))]) (w1 := [(q11, .inr (5, [.ref qr_13, .ref qj_14, .int 0, .int 0, .int 0, .int 0])), (qr_13, .inl (kr_15, 400, .inr (.inr (.inr (.inr (fun _ => none)))))), (qj_14, .inl (kj_16, 160, .inl (fun _ => 0)))]) hP hD [5] [0, 1, 2, 3, 4] rfl rfl (by decide) (by decide) hk1 hFc hP1 hD1
  have hK := hK.app hK1
  generalize H1 = H at hP hS ⊢
  have hP : va_P (dC, dI) vwCl [(h0, .inr (6, [.ref q9, .ref q0, .ref q10, .ref q4_2, .int 0, .int 0, .int 0, .null, .int 0, .int 0, .int 0])), (q4_2, .inr (3, [.ref qn_3, .ref qc_5, .ref qf_7, .int 0])), (qn_3, .inl (kn_4, 128, .inr (.inl (fun _ => 0)))), (qc_5, .inl (kc_6, 128, .inl (fun _ => 0))), (qf_7, .inl (kf_8, 128, .inl (fun _ => 0))), (q11, .inr (5, [.ref qr_13, .ref qj_14, .int 0, .int 0, .int 0, .int 0])), (qr_13, .inl (kr_15, 400, .inr (.inr (.inr (.inr (fun _ => none)))))), (qj_14, .inl (kj_16, 160, .inl (fun _ => 0)))] H := hP
  have hD : va_D A [(h0, .inr (6, [.ref q9, .ref q0, .ref q10, .ref q4_2, .int 0, .int 0, .int 0, .null, .int 0, .int 0, .int 0])), (q4_2, .inr (3, [.ref qn_3, .ref qc_5, .ref qf_7, .int 0])), (qn_3, .inl (kn_4, 128, .inr (.inl (fun _ => 0)))), (qc_5, .inl (kc_6, 128, .inl (fun _ => 0))), (qf_7, .inl (kf_8, 128, .inl (fun _ => 0))), (q11, .inr (5, [.ref qr_13, .ref qj_14, .int 0, .int 0, .int 0, .int 0])), (qr_13, .inl (kr_15, 400, .inr (.inr (.inr (.inr (fun _ => none)))))), (qj_14, .inl (kj_16, 160, .inl (fun _ => 0)))] := hD
  have hK : va_K (dC, dI) vwCl [(kn_4, .long), (kc_6, .int), (kf_8, .int), (kr_15, .object "StatementRules2$Open"), (kj_16, .int)] s := hK
  refine W.widen (k := 7) (n := 954) (by omega) (by omega) ?_
  refine va_putF (D := (dC, dI)) (ci := 6) (v := .ref q11) (ty := (.object "StatementRules2$Opens")) (C := RX7) (T := TX7) (N := 11) hx hb hts i_X7_init_X7 tyX7 tyX7_ok nmX7 hown hK hP hD hS 0 rfl rfl 7 (by decide) (hts (.fieldLink RX7 14 "StatementRules2$Statements" "opens" "LStatementRules2$Opens;") k_X7_init_fieldLink_RX7_14_SR_Statements_opens_LSR_Opens) (fun _ h9 => h9) rfl hin rfl (by decide +kernel) rfl rfl (Nat.le_of_ble_eq_true rfl) dX7_init_15 (fun H locs hP hD hS => ?_)
  have hP : va_P (dC, dI) vwCl [(h0, .inr (6, [.ref q9, .ref q0, .ref q10, .ref q4_2, .int 0, .int 0, .int 0, .ref q11, .int 0, .int 0, .int 0])), (q4_2, .inr (3, [.ref qn_3, .ref qc_5, .ref qf_7, .int 0])), (qn_3, .inl (kn_4, 128, .inr (.inl (fun _ => 0)))), (qc_5, .inl (kc_6, 128, .inl (fun _ => 0))), (qf_7, .inl (kf_8, 128, .inl (fun _ => 0))), (q11, .inr (5, [.ref qr_13, .ref qj_14, .int 0, .int 0, .int 0, .int 0])), (qr_13, .inl (kr_15, 400, .inr (.inr (.inr (.inr (fun _ => none)))))), (qj_14, .inl (kj_16, 160, .inl (fun _ => 0)))] H := hP
  have hD : va_D A [(h0, .inr (6, [.ref q9, .ref q0, .ref q10, .ref q4_2, .int 0, .int 0, .int 0, .ref q11, .int 0, .int 0, .int 0])), (q4_2, .inr (3, [.ref qn_3, .ref qc_5, .ref qf_7, .int 0])), (qn_3, .inl (kn_4, 128, .inr (.inl (fun _ => 0)))), (qc_5, .inl (kc_6, 128, .inl (fun _ => 0))), (qf_7, .inl (kf_8, 128, .inl (fun _ => 0))), (q11, .inr (5, [.ref qr_13, .ref qj_14, .int 0, .int 0, .int 0, .int 0])), (qr_13, .inl (kr_15, 400, .inr (.inr (.inr (.inr (fun _ => none)))))), (qj_14, .inl (kj_16, 160, .inl (fun _ => 0)))] := hD
  have hP9 := hP.sub (ws' := [(h0, .inr (6, [.ref q9, .ref q0, .ref q10, .ref q4_2, .int 0, .int 0, .int 0, .ref q11, .int 0, .int 0, .int 0])), (q4_2, .inr (3, [.ref qn_3, .ref qc_5, .ref qf_7, .int 0])), (qn_3, .inl (kn_4, 128, .inr (.inl (fun _ => 0)))), (qc_5, .inl (kc_6, 128, .inl (fun _ => 0))), (qf_7, .inl (kf_8, 128, .inl (fun _ => 0))), (q11, .inr (5, [.ref qr_13, .ref qj_14, .int 0, .int 0, .int 0, .int 0])), (qr_13, .inl (kr_15, 400, .inr (.inr (.inr (.inr (fun _ => none)))))), (qj_14, .inl (kj_16, 160, .inl (fun _ => 0)))]) [0, 1, 2, 3, 4, 5, 6, 7] rfl
  have hD9 := hD.sub (ws' := [(h0, .inr (6, [.ref q9, .ref q0, .ref q10, .ref q4_2, .int 0, .int 0, .int 0, .ref q11, .int 0, .int 0, .int 0])), (q4_2, .inr (3, [.ref qn_3, .ref qc_5, .ref qf_7, .int 0])), (qn_3, .inl (kn_4, 128, .inr (.inl (fun _ => 0)))), (qc_5, .inl (kc_6, 128, .inl (fun _ => 0))), (qf_7, .inl (kf_8, 128, .inl (fun _ => 0))), (q11, .inr (5, [.ref qr_13, .ref qj_14, .int 0, .int 0, .int 0, .int 0])), (qr_13, .inl (kr_15, 400, .inr (.inr (.inr (.inr (fun _ => none)))))), (qj_14, .inl (kj_16, 160, .inl (fun _ => 0)))]) [0, 1, 2, 3, 4, 5, 6, 7] (by decide) rfl
  have hK9 := hK.sub (tys' := [(kn_4, .long), (kc_6, .int), (kf_8, .int), (kr_15, .object "StatementRules2$Open"), (kj_16, .int)]) [0, 1, 2, 3, 4] rfl
  exact W.vret hx hb hr (fun t ht hW => ⟨⟨(), rfl, trivial, q4_2, qn_3, kn_4, qc_5, kc_6, qf_7, kf_8, q11, qr_13, qj_14, kr_15, kj_16, by rw [ht]; exact hP9, va_K.moved hW.alike hK9, hD9⟩, hS.F ht⟩) hS.2.2 dX7_init_18
theorem k_X3_init_methodLink_RX3_3_objectInit : Cond.methodLink RX3 3 objectInit ∈ wzX3_init := List.mem_cons_of_mem _ (List.mem_append_left _ (List.mem_of_getElem? (i := 0) rfl))
theorem k_X3_init_instanceMethod_objectInit : Cond.instanceMethod objectInit ∈ wzX3_init := List.mem_cons_of_mem _ (List.mem_append_left _ (List.mem_of_getElem? (i := 1) rfl))
theorem k_X3_init_code_objectInit_0xb1_1_none : Cond.code objectInit ⟨#[0xb1]⟩ 1 none ∈ wzX3_init := List.mem_cons_of_mem _ (List.mem_append_left _ (List.mem_of_getElem? (i := 2) rfl))
theorem k_X3_init_arrayClass_int : Cond.arrayClass .int ∈ wzX3_init := List.mem_cons_of_mem _ (List.mem_append_left _ (List.mem_of_getElem? (i := 3) rfl))
theorem k_X3_init_fieldLink_RX3_9_SR_Machine_cells_I : Cond.fieldLink RX3 9 "StatementRules2$Machine" "cells" "[I" ∈ wzX3_init := List.mem_cons_of_mem _ (List.mem_append_left _ (List.mem_of_getElem? (i := 4) rfl))
theorem i_X3_init_X3 : ∀ w ∈ wsX30, w ∈ wzX3_init := fun _ h => List.mem_cons_of_mem _ (List.mem_append_right _ (List.mem_append_left _ (h)))
theorem k_X3_init_fieldLink_RX3_15_SR_Machine_values_I : Cond.fieldLink RX3 15 "StatementRules2$Machine" "values" "[I" ∈ wzX3_init := List.mem_cons_of_mem _ (List.mem_append_left _ (List.mem_of_getElem? (i := 5) rfl))
theorem k_X3_init_classLink_RX3_18_RX2 : Cond.classLink RX3 18 RX2 ∈ wzX3_init := List.mem_cons_of_mem _ (List.mem_append_left _ (List.mem_of_getElem? (i := 6) rfl))
theorem k_X3_init_fieldLink_RX3_20_SR_Machine_frames_LSR_Frame : Cond.fieldLink RX3 20 "StatementRules2$Machine" "frames" "[LStatementRules2$Frame;" ∈ wzX3_init := List.mem_cons_of_mem _ (List.mem_append_left _ (List.mem_of_getElem? (i := 7) rfl))
theorem k_X3_init_classLink_RX3_24_RX8 : Cond.classLink RX3 24 RX8 ∈ wzX3_init := List.mem_cons_of_mem _ (List.mem_append_left _ (List.mem_of_getElem? (i := 8) rfl))
theorem k_X3_init_fieldLink_RX3_26_SR_Machine_pool_LSR_Thrown : Cond.fieldLink RX3 26 "StatementRules2$Machine" "pool" "[LStatementRules2$Thrown;" ∈ wzX3_init := List.mem_cons_of_mem _ (List.mem_append_left _ (List.mem_of_getElem? (i := 9) rfl))
theorem k_X3_init_fieldLink_RX3_30_SR_Machine_opened_I : Cond.fieldLink RX3 30 "StatementRules2$Machine" "opened" "[I" ∈ wzX3_init := List.mem_cons_of_mem _ (List.mem_append_left _ (List.mem_of_getElem? (i := 10) rfl))
theorem k_X3_init_fieldLink_RX3_33_SR_Machine_rows_I : Cond.fieldLink RX3 33 "StatementRules2$Machine" "rows" "[I" ∈ wzX3_init := List.mem_cons_of_mem _ (List.mem_append_left _ (List.mem_of_getElem? (i := 11) rfl))
theorem k_X3_init_fieldLink_RX3_36_SR_Machine_told_LSR_Told : Cond.fieldLink RX3 36 "StatementRules2$Machine" "told" "LStatementRules2$Told;" ∈ wzX3_init := List.mem_cons_of_mem _ (List.mem_append_left _ (List.mem_of_getElem? (i := 12) rfl))
theorem k_X3_init_fieldLink_RX3_40_SR_Machine_code_LSR_Code : Cond.fieldLink RX3 40 "StatementRules2$Machine" "code" "LStatementRules2$Code;" ∈ wzX3_init := List.mem_cons_of_mem _ (List.mem_append_left _ (List.mem_of_getElem? (i := 13) rfl))
set_option maxHeartbeats 4000000 in
set_option maxRecDepth 100000 in
theorem c_X3_init (l : Launch) (dC : Nat → ClassId) (dI : Nat → Nat → Nat) (sz : Nat) (h0 : Nat) (q10 : Nat) (q0 : Nat) : Met l yX3_init wzX3_init ({ frames := 1, cells := 6, slots := 2088, locals := 60 }) (va_Pc [.ref h0, .ref q10, .ref q0] (zPre dC dI sz [(h0, .inr (2, [.null, .null, .null, .null, .null, .null, .null, .null, .int 0, .int 0, .int 0, .int 0, .int 0, .int 0, .int 0, .int 0, .int 0, .int 0, .int 0, .null]))] [])) (va_Qv (fun (_ : Unit) => True) (fun (_ : Unit) (t : State) => ∃ (qM0 : Nat), ∃ (kM0 : ClassId), ∃ (qM1 : Nat), ∃ (kM1 : ClassId), ∃ (qM2 : Nat), ∃ (kM2 : ClassId), ∃ (qM3 : Nat), ∃ (kM3 : ClassId), ∃ (qM4 : Nat), ∃ (kM4 : ClassId), ∃ (qM5 : Nat), ∃ (kM5 : ClassId), zPost dC dI (va_A [(h0, .inr (2, [.null, .null, .null, .null, .null, .null, .null, .null, .int 0, .int 0, .int 0, .int 0, .int 0, .int 0, .int 0, .int 0, .int 0, .int 0, .int 0, .null]))] sz) [(h0, .inr (2, [.ref q10, .ref q0, .ref qM0, .ref qM1, .ref qM2, .ref qM3, .ref qM4, .ref qM5, .int 0, .int 0, .int 0, .int 0, .int 0, .int 0, .int 0, .int 0, .int 0, .int 0, .int 0, .null])), (qM0, .inl (kM0, 720, .inl (fun _ => 0))), (qM1, .inl (kM1, 600, .inl (fun _ => 0))), (qM2, .inl (kM2, 24, .inr (.inr (.inr (.inr (fun _ => none)))))), (qM3, .inl (kM3, 24, .inr (.inr (.inr (.inr (fun _ => none)))))), (qM4, .inl (kM4, 320, .inl (fun _ => 0))), (qM5, .inl (kM5, 400, .inl (fun _ => 0)))] [(kM0, .int), (kM1, .int), (kM2, .object "StatementRules2$Frame"), (kM3, .object "StatementRules2$Thrown"), (kM4, .int), (kM5, .int)] t) (va_A [(h0, .inr (2, [.null, .null, .null, .null, .null, .null, .null, .null, .int 0, .int 0, .int 0, .int 0, .int 0, .int 0, .int 0, .int 0, .int 0, .int 0, .int 0, .null]))] sz)) 6 2088 (va_A [(h0, .inr (2, [.null, .null, .null, .null, .null, .null, .null, .null, .int 0, .int 0, .int 0, .int 0, .int 0, .int 0, .int 0, .int 0, .int 0, .int 0, .int 0, .null]))] sz) := by
  refine Met.ofW (cc := cX3_init) (maxL := 3) (ret := none) (by decide) rfl ?_
  intro p e s m args below meth c s₁ B hml hv
  obtain ⟨rfl, hsz, hZ, hP, hK, hD0⟩ := hv
  have hx := B.exec
  have hb := B.bytes
  have hr := B.returns
  have hts := atoms_spec (ws := wzX3_init) B.pre
  have hown : s.vm.findClass RX3 = some m.cls := findClass_of_methodNamed B.named
  have hlocks := B.notSynchronized
  have hin : meth.name = "<init>" := (name_of_methodNamed B.named B.method).1
  subst hsz
  have hD := hD0.self (sz := s.heap.size)
  generalize hAe : va_A [(h0, .inr (2, [.null, .null, .null, .null, .null, .null, .null, .null, .int 0, .int 0, .int 0, .int 0, .int 0, .int 0, .int 0, .int 0, .int 0, .int 0, .int 0, .null]))] s.heap.size = A at hD ⊢
  have hA : ∀ q : Nat, s.heap.size ≤ q → A q := fun q h => by rw [← hAe]; exact Or.inr h
  have hS : va_S A s.heap s.heap [] := va_S.rf
  have hP : va_P (dC, dI) vwCl [(h0, .inr (2, [.null, .null, .null, .null, .null, .null, .null, .null, .int 0, .int 0, .int 0, .int 0, .int 0, .int 0, .int 0, .int 0, .int 0, .int 0, .int 0, .null]))] s.heap := hP
  have hl := lv_entry ([.ref h0, .ref q10, .ref q0]) (n := 3) (Nat.le_of_ble_eq_true rfl)
  rw [lg_entry_eq]
  generalize (lg_sl ([.ref h0, .ref q10, .ref q0]) ++ List.replicate (3 - (lg_sl ([.ref h0, .ref q10, .ref q0])).length) Slot.unset).toArray = ls at hl ⊢
  have hl : lv_has ls 3 [(0, .ref h0), (1, .ref q10), (2, .ref q0)] := hl
  refine lv_aload_n hx hb dX3_init_0 rfl (lv_at hl 0 rfl) ?_
  refine W.objInit hx hb hown (hts (.methodLink RX3 3 objectInit) k_X3_init_methodLink_RX3_3_objectInit) (hts (.instanceMethod objectInit) k_X3_init_instanceMethod_objectInit) (hts (.code objectInit ⟨#[0xb1]⟩ 1 none) k_X3_init_code_objectInit_0xb1_1_none) rfl (by rw [hml]; exact hl.1) rfl dX3_init_1 (Nat.le_of_ble_eq_true rfl) (Nat.le_of_ble_eq_true rfl) ?_
  refine W.eq (g2 := F0 m 4 ls []) rfl ?_
  refine lv_aload_n hx hb dX3_init_4 rfl (lv_at hl 0 rfl) ?_
  refine lv_sipush (v := 720) hx hb dX3_init_5 (by decide) ?_
  refine va_newa (atype := .int) (ty := .int) (N' := 720) (a0 := (720, .inl (fun _ => 0))) hx hb (hts (.arrayClass .int) k_X3_init_arrayClass_int) rfl hK hP hD hS hA (z_newi 720) (by decide) (by decide) (by decide) (Nat.le_of_ble_eq_true rfl) (Nat.le_of_ble_eq_true rfl) dX3_init_8 (fun q1 kq1 H hK hP hD hS => ?_)
  refine W.widen (k := 1) (n := 720) (by omega) (by omega) ?_
  have hP : va_P (dC, dI) vwCl [(h0, .inr (2, [.null, .null, .null, .null, .null, .null, .null, .null, .int 0, .int 0, .int 0, .int 0, .int 0, .int 0, .int 0, .int 0, .int 0, .int 0, .int 0, .null])), (q1, .inl (kq1, 720, .inl (fun _ => 0)))] H := hP
  have hD : va_D A [(h0, .inr (2, [.null, .null, .null, .null, .null, .null, .null, .null, .int 0, .int 0, .int 0, .int 0, .int 0, .int 0, .int 0, .int 0, .int 0, .int 0, .int 0, .null])), (q1, .inl (kq1, 720, .inl (fun _ => 0)))] := hD
  have hK : va_K (dC, dI) vwCl [(kq1, .int)] s := hK
  refine va_putF (D := (dC, dI)) (ci := 2) (v := .ref q1) (ty := (.array .int)) (C := RX3) (T := TX3) (N := 20) hx hb hts i_X3_init_X3 tyX3 tyX3_ok nmX3 hown hK hP hD hS 0 rfl rfl 2 (by decide) (hts (.fieldLink RX3 9 "StatementRules2$Machine" "cells" "[I") k_X3_init_fieldLink_RX3_9_SR_Machine_cells_I) (fun _ h9 => h9) rfl hin rfl (by decide +kernel) rfl rfl (Nat.le_of_ble_eq_true rfl) dX3_init_10 (fun H locs hP hD hS => ?_)
  have hP : va_P (dC, dI) vwCl [(h0, .inr (2, [.null, .null, .ref q1, .null, .null, .null, .null, .null, .int 0, .int 0, .int 0, .int 0, .int 0, .int 0, .int 0, .int 0, .int 0, .int 0, .int 0, .null])), (q1, .inl (kq1, 720, .inl (fun _ => 0)))] H := hP
  have hD : va_D A [(h0, .inr (2, [.null, .null, .ref q1, .null, .null, .null, .null, .null, .int 0, .int 0, .int 0, .int 0, .int 0, .int 0, .int 0, .int 0, .int 0, .int 0, .int 0, .null])), (q1, .inl (kq1, 720, .inl (fun _ => 0)))] := hD
  refine lv_aload_n hx hb dX3_init_13 rfl (lv_at hl 0 rfl) ?_
  refine lv_sipush (v := 600) hx hb dX3_init_14 (by decide) ?_
  refine va_newa (atype := .int) (ty := .int) (N' := 600) (a0 := (600, .inl (fun _ => 0))) hx hb (hts (.arrayClass .int) k_X3_init_arrayClass_int) rfl hK hP hD hS hA (z_newi 600) (by decide) (by decide) (by decide) (Nat.le_of_ble_eq_true rfl) (Nat.le_of_ble_eq_true rfl) dX3_init_17 (fun q2 kq2 H hK hP hD hS => ?_)
  refine W.widen (k := 2) (n := 1320) (by omega) (by omega) ?_
  have hP : va_P (dC, dI) vwCl [(h0, .inr (2, [.null, .null, .ref q1, .null, .null, .null, .null, .null, .int 0, .int 0, .int 0, .int 0, .int 0, .int 0, .int 0, .int 0, .int 0, .int 0, .int 0, .null])), (q1, .inl (kq1, 720, .inl (fun _ => 0))), (q2, .inl (kq2, 600, .inl (fun _ => 0)))] H := hP
  have hD : va_D A [(h0, .inr (2, [.null, .null, .ref q1, .null, .null, .null, .null, .null, .int 0, .int 0, .int 0, .int 0, .int 0, .int 0, .int 0, .int 0, .int 0, .int 0, .int 0, .null])), (q1, .inl (kq1, 720, .inl (fun _ => 0))), (q2, .inl (kq2, 600, .inl (fun _ => 0)))] := hD
  have hK : va_K (dC, dI) vwCl [(kq1, .int), (kq2, .int)] s := hK
  refine va_putF (D := (dC, dI)) (ci := 2) (v := .ref q2) (ty := (.array .int)) (C := RX3) (T := TX3) (N := 20) hx hb hts i_X3_init_X3 tyX3 tyX3_ok nmX3 hown hK hP hD hS 0 rfl rfl 3 (by decide) (hts (.fieldLink RX3 15 "StatementRules2$Machine" "values" "[I") k_X3_init_fieldLink_RX3_15_SR_Machine_values_I) (fun _ h9 => h9) rfl hin rfl (by decide +kernel) rfl rfl (Nat.le_of_ble_eq_true rfl) dX3_init_19 (fun H locs hP hD hS => ?_)
  have hP : va_P (dC, dI) vwCl [(h0, .inr (2, [.null, .null, .ref q1, .ref q2, .null, .null, .null, .null, .int 0, .int 0, .int 0, .int 0, .int 0, .int 0, .int 0, .int 0, .int 0, .int 0, .int 0, .null])), (q1, .inl (kq1, 720, .inl (fun _ => 0))), (q2, .inl (kq2, 600, .inl (fun _ => 0)))] H := hP
  have hD : va_D A [(h0, .inr (2, [.null, .null, .ref q1, .ref q2, .null, .null, .null, .null, .int 0, .int 0, .int 0, .int 0, .int 0, .int 0, .int 0, .int 0, .int 0, .int 0, .int 0, .null])), (q1, .inl (kq1, 720, .inl (fun _ => 0))), (q2, .inl (kq2, 600, .inl (fun _ => 0)))] := hD
  refine lv_aload_n hx hb dX3_init_22 rfl (lv_at hl 0 rfl) ?_
  refine lv_bipush (v := 24) hx hb dX3_init_23 (by decide) ?_
  refine va_newq (C := "StatementRules2$Frame") (N' := 24) hx hb hown (hts (.classLink RX3 18 RX2) k_X3_init_classLink_RX3_18_RX2) hZ.2.2.1 hK hP hD hS hA (by decide) (by decide) (by decide) (Nat.le_of_ble_eq_true rfl) (Nat.le_of_ble_eq_true rfl) dX3_init_25 (fun q3 kq3 H hK hP hD hS => ?_)
  refine W.widen (k := 3) (n := 1344) (by omega) (by omega) ?_
  have hP : va_P (dC, dI) vwCl [(h0, .inr (2, [.null, .null, .ref q1, .ref q2, .null, .null, .null, .null, .int 0, .int 0, .int 0, .int 0, .int 0, .int 0, .int 0, .int 0, .int 0, .int 0, .int 0, .null])), (q1, .inl (kq1, 720, .inl (fun _ => 0))), (q2, .inl (kq2, 600, .inl (fun _ => 0))), (q3, .inl (kq3, 24, .inr (.inr (.inr (.inr (fun _ => none))))))] H := hP
  have hD : va_D A [(h0, .inr (2, [.null, .null, .ref q1, .ref q2, .null, .null, .null, .null, .int 0, .int 0, .int 0, .int 0, .int 0, .int 0, .int 0, .int 0, .int 0, .int 0, .int 0, .null])), (q1, .inl (kq1, 720, .inl (fun _ => 0))), (q2, .inl (kq2, 600, .inl (fun _ => 0))), (q3, .inl (kq3, 24, .inr (.inr (.inr (.inr (fun _ => none))))))] := hD
  have hK : va_K (dC, dI) vwCl [(kq1, .int), (kq2, .int), (kq3, .object "StatementRules2$Frame")] s := hK
  refine va_putF (D := (dC, dI)) (ci := 2) (v := .ref q3) (ty := (.array (.object "StatementRules2$Frame"))) (C := RX3) (T := TX3) (N := 20) hx hb hts i_X3_init_X3 tyX3 tyX3_ok nmX3 hown hK hP hD hS 0 rfl rfl 4 (by decide) (hts (.fieldLink RX3 20 "StatementRules2$Machine" "frames" "[LStatementRules2$Frame;") k_X3_init_fieldLink_RX3_20_SR_Machine_frames_LSR_Frame) (fun _ h9 => h9) rfl hin rfl (by decide +kernel) rfl rfl (Nat.le_of_ble_eq_true rfl) dX3_init_28 (fun H locs hP hD hS => ?_)
  have hP : va_P (dC, dI) vwCl [(h0, .inr (2, [.null, .null, .ref q1, .ref q2, .ref q3, .null, .null, .null, .int 0, .int 0, .int 0, .int 0, .int 0, .int 0, .int 0, .int 0, .int 0, .int 0, .int 0, .null])), (q1, .inl (kq1, 720, .inl (fun _ => 0))), (q2, .inl (kq2, 600, .inl (fun _ => 0))), (q3, .inl (kq3, 24, .inr (.inr (.inr (.inr (fun _ => none))))))] H := hP
  have hD : va_D A [(h0, .inr (2, [.null, .null, .ref q1, .ref q2, .ref q3, .null, .null, .null, .int 0, .int 0, .int 0, .int 0, .int 0, .int 0, .int 0, .int 0, .int 0, .int 0, .int 0, .null])), (q1, .inl (kq1, 720, .inl (fun _ => 0))), (q2, .inl (kq2, 600, .inl (fun _ => 0))), (q3, .inl (kq3, 24, .inr (.inr (.inr (.inr (fun _ => none))))))] := hD
  refine lv_aload_n hx hb dX3_init_31 rfl (lv_at hl 0 rfl) ?_
  refine lv_bipush (v := 24) hx hb dX3_init_32 (by decide) ?_
  refine va_newq (C := "StatementRules2$Thrown") (N' := 24) hx hb hown (hts (.classLink RX3 24 RX8) k_X3_init_classLink_RX3_24_RX8) hZ.2.2.2 hK hP hD hS hA (by decide) (by decide) (by decide) (Nat.le_of_ble_eq_true rfl) (Nat.le_of_ble_eq_true rfl) dX3_init_34 (fun q4 kq4 H hK hP hD hS => ?_)
  refine W.widen (k := 4) (n := 1368) (by omega) (by omega) ?_
  have hP : va_P (dC, dI) vwCl [(h0, .inr (2, [.null, .null, .ref q1, .ref q2, .ref q3, .null, .null, .null, .int 0, .int 0, .int 0, .int 0, .int 0, .int 0, .int 0, .int 0, .int 0, .int 0, .int 0, .null])), (q1, .inl (kq1, 720, .inl (fun _ => 0))), (q2, .inl (kq2, 600, .inl (fun _ => 0))), (q3, .inl (kq3, 24, .inr (.inr (.inr (.inr (fun _ => none)))))), (q4, .inl (kq4, 24, .inr (.inr (.inr (.inr (fun _ => none))))))] H := hP
  have hD : va_D A [(h0, .inr (2, [.null, .null, .ref q1, .ref q2, .ref q3, .null, .null, .null, .int 0, .int 0, .int 0, .int 0, .int 0, .int 0, .int 0, .int 0, .int 0, .int 0, .int 0, .null])), (q1, .inl (kq1, 720, .inl (fun _ => 0))), (q2, .inl (kq2, 600, .inl (fun _ => 0))), (q3, .inl (kq3, 24, .inr (.inr (.inr (.inr (fun _ => none)))))), (q4, .inl (kq4, 24, .inr (.inr (.inr (.inr (fun _ => none))))))] := hD
  have hK : va_K (dC, dI) vwCl [(kq1, .int), (kq2, .int), (kq3, .object "StatementRules2$Frame"), (kq4, .object "StatementRules2$Thrown")] s := hK
  refine va_putF (D := (dC, dI)) (ci := 2) (v := .ref q4) (ty := (.array (.object "StatementRules2$Thrown"))) (C := RX3) (T := TX3) (N := 20) hx hb hts i_X3_init_X3 tyX3 tyX3_ok nmX3 hown hK hP hD hS 0 rfl rfl 5 (by decide) (hts (.fieldLink RX3 26 "StatementRules2$Machine" "pool" "[LStatementRules2$Thrown;") k_X3_init_fieldLink_RX3_26_SR_Machine_pool_LSR_Thrown) (fun _ h9 => h9) rfl hin rfl (by decide +kernel) rfl rfl (Nat.le_of_ble_eq_true rfl) dX3_init_37 (fun H locs hP hD hS => ?_)
  have hP : va_P (dC, dI) vwCl [(h0, .inr (2, [.null, .null, .ref q1, .ref q2, .ref q3, .ref q4, .null, .null, .int 0, .int 0, .int 0, .int 0, .int 0, .int 0, .int 0, .int 0, .int 0, .int 0, .int 0, .null])), (q1, .inl (kq1, 720, .inl (fun _ => 0))), (q2, .inl (kq2, 600, .inl (fun _ => 0))), (q3, .inl (kq3, 24, .inr (.inr (.inr (.inr (fun _ => none)))))), (q4, .inl (kq4, 24, .inr (.inr (.inr (.inr (fun _ => none))))))] H := hP
  have hD : va_D A [(h0, .inr (2, [.null, .null, .ref q1, .ref q2, .ref q3, .ref q4, .null, .null, .int 0, .int 0, .int 0, .int 0, .int 0, .int 0, .int 0, .int 0, .int 0, .int 0, .int 0, .null])), (q1, .inl (kq1, 720, .inl (fun _ => 0))), (q2, .inl (kq2, 600, .inl (fun _ => 0))), (q3, .inl (kq3, 24, .inr (.inr (.inr (.inr (fun _ => none)))))), (q4, .inl (kq4, 24, .inr (.inr (.inr (.inr (fun _ => none))))))] := hD
  refine lv_aload_n hx hb dX3_init_40 rfl (lv_at hl 0 rfl) ?_
  refine lv_sipush (v := 320) hx hb dX3_init_41 (by decide) ?_
  refine va_newa (atype := .int) (ty := .int) (N' := 320) (a0 := (320, .inl (fun _ => 0))) hx hb (hts (.arrayClass .int) k_X3_init_arrayClass_int) rfl hK hP hD hS hA (z_newi 320) (by decide) (by decide) (by decide) (Nat.le_of_ble_eq_true rfl) (Nat.le_of_ble_eq_true rfl) dX3_init_44 (fun q5 kq5 H hK hP hD hS => ?_)
  refine W.widen (k := 5) (n := 1688) (by omega) (by omega) ?_
  have hP : va_P (dC, dI) vwCl [(h0, .inr (2, [.null, .null, .ref q1, .ref q2, .ref q3, .ref q4, .null, .null, .int 0, .int 0, .int 0, .int 0, .int 0, .int 0, .int 0, .int 0, .int 0, .int 0, .int 0, .null])), (q1, .inl (kq1, 720, .inl (fun _ => 0))), (q2, .inl (kq2, 600, .inl (fun _ => 0))), (q3, .inl (kq3, 24, .inr (.inr (.inr (.inr (fun _ => none)))))), (q4, .inl (kq4, 24, .inr (.inr (.inr (.inr (fun _ => none)))))), (q5, .inl (kq5, 320, .inl (fun _ => 0)))] H := hP
  have hD : va_D A [(h0, .inr (2, [.null, .null, .ref q1, .ref q2, .ref q3, .ref q4, .null, .null, .int 0, .int 0, .int 0, .int 0, .int 0, .int 0, .int 0, .int 0, .int 0, .int 0, .int 0, .null])), (q1, .inl (kq1, 720, .inl (fun _ => 0))), (q2, .inl (kq2, 600, .inl (fun _ => 0))), (q3, .inl (kq3, 24, .inr (.inr (.inr (.inr (fun _ => none)))))), (q4, .inl (kq4, 24, .inr (.inr (.inr (.inr (fun _ => none)))))), (q5, .inl (kq5, 320, .inl (fun _ => 0)))] := hD
  have hK : va_K (dC, dI) vwCl [(kq1, .int), (kq2, .int), (kq3, .object "StatementRules2$Frame"), (kq4, .object "StatementRules2$Thrown"), (kq5, .int)] s := hK
  refine va_putF (D := (dC, dI)) (ci := 2) (v := .ref q5) (ty := (.array .int)) (C := RX3) (T := TX3) (N := 20) hx hb hts i_X3_init_X3 tyX3 tyX3_ok nmX3 hown hK hP hD hS 0 rfl rfl 6 (by decide) (hts (.fieldLink RX3 30 "StatementRules2$Machine" "opened" "[I") k_X3_init_fieldLink_RX3_30_SR_Machine_opened_I) (fun _ h9 => h9) rfl hin rfl (by decide +kernel) rfl rfl (Nat.le_of_ble_eq_true rfl) dX3_init_46 (fun H locs hP hD hS => ?_)
  have hP : va_P (dC, dI) vwCl [(h0, .inr (2, [.null, .null, .ref q1, .ref q2, .ref q3, .ref q4, .ref q5, .null, .int 0, .int 0, .int 0, .int 0, .int 0, .int 0, .int 0, .int 0, .int 0, .int 0, .int 0, .null])), (q1, .inl (kq1, 720, .inl (fun _ => 0))), (q2, .inl (kq2, 600, .inl (fun _ => 0))), (q3, .inl (kq3, 24, .inr (.inr (.inr (.inr (fun _ => none)))))), (q4, .inl (kq4, 24, .inr (.inr (.inr (.inr (fun _ => none)))))), (q5, .inl (kq5, 320, .inl (fun _ => 0)))] H := hP
  have hD : va_D A [(h0, .inr (2, [.null, .null, .ref q1, .ref q2, .ref q3, .ref q4, .ref q5, .null, .int 0, .int 0, .int 0, .int 0, .int 0, .int 0, .int 0, .int 0, .int 0, .int 0, .int 0, .null])), (q1, .inl (kq1, 720, .inl (fun _ => 0))), (q2, .inl (kq2, 600, .inl (fun _ => 0))), (q3, .inl (kq3, 24, .inr (.inr (.inr (.inr (fun _ => none)))))), (q4, .inl (kq4, 24, .inr (.inr (.inr (.inr (fun _ => none)))))), (q5, .inl (kq5, 320, .inl (fun _ => 0)))] := hD
  refine lv_aload_n hx hb dX3_init_49 rfl (lv_at hl 0 rfl) ?_
  refine lv_sipush (v := 400) hx hb dX3_init_50 (by decide) ?_
  refine va_newa (atype := .int) (ty := .int) (N' := 400) (a0 := (400, .inl (fun _ => 0))) hx hb (hts (.arrayClass .int) k_X3_init_arrayClass_int) rfl hK hP hD hS hA (z_newi 400) (by decide) (by decide) (by decide) (Nat.le_of_ble_eq_true rfl) (Nat.le_of_ble_eq_true rfl) dX3_init_53 (fun q6 kq6 H hK hP hD hS => ?_)
  refine W.widen (k := 6) (n := 2088) (by omega) (by omega) ?_
  have hP : va_P (dC, dI) vwCl [(h0, .inr (2, [.null, .null, .ref q1, .ref q2, .ref q3, .ref q4, .ref q5, .null, .int 0, .int 0, .int 0, .int 0, .int 0, .int 0, .int 0, .int 0, .int 0, .int 0, .int 0, .null])), (q1, .inl (kq1, 720, .inl (fun _ => 0))), (q2, .inl (kq2, 600, .inl (fun _ => 0))), (q3, .inl (kq3, 24, .inr (.inr (.inr (.inr (fun _ => none)))))), (q4, .inl (kq4, 24, .inr (.inr (.inr (.inr (fun _ => none)))))), (q5, .inl (kq5, 320, .inl (fun _ => 0))), (q6, .inl (kq6, 400, .inl (fun _ => 0)))] H := hP
  have hD : va_D A [(h0, .inr (2, [.null, .null, .ref q1, .ref q2, .ref q3, .ref q4, .ref q5, .null, .int 0, .int 0, .int 0, .int 0, .int 0, .int 0, .int 0, .int 0, .int 0, .int 0, .int 0, .null])), (q1, .inl (kq1, 720, .inl (fun _ => 0))), (q2, .inl (kq2, 600, .inl (fun _ => 0))), (q3, .inl (kq3, 24, .inr (.inr (.inr (.inr (fun _ => none)))))), (q4, .inl (kq4, 24, .inr (.inr (.inr (.inr (fun _ => none)))))), (q5, .inl (kq5, 320, .inl (fun _ => 0))), (q6, .inl (kq6, 400, .inl (fun _ => 0)))] := hD
  have hK : va_K (dC, dI) vwCl [(kq1, .int), (kq2, .int), (kq3, .object "StatementRules2$Frame"), (kq4, .object "StatementRules2$Thrown"), (kq5, .int), (kq6, .int)] s := hK
  refine va_putF (D := (dC, dI)) (ci := 2) (v := .ref q6) (ty := (.array .int)) (C := RX3) (T := TX3) (N := 20) hx hb hts i_X3_init_X3 tyX3 tyX3_ok nmX3 hown hK hP hD hS 0 rfl rfl 7 (by decide) (hts (.fieldLink RX3 33 "StatementRules2$Machine" "rows" "[I") k_X3_init_fieldLink_RX3_33_SR_Machine_rows_I) (fun _ h9 => h9) rfl hin rfl (by decide +kernel) rfl rfl (Nat.le_of_ble_eq_true rfl) dX3_init_55 (fun H locs hP hD hS => ?_)
  have hP : va_P (dC, dI) vwCl [(h0, .inr (2, [.null, .null, .ref q1, .ref q2, .ref q3, .ref q4, .ref q5, .ref q6, .int 0, .int 0, .int 0, .int 0, .int 0, .int 0, .int 0, .int 0, .int 0, .int 0, .int 0, .null])), (q1, .inl (kq1, 720, .inl (fun _ => 0))), (q2, .inl (kq2, 600, .inl (fun _ => 0))), (q3, .inl (kq3, 24, .inr (.inr (.inr (.inr (fun _ => none)))))), (q4, .inl (kq4, 24, .inr (.inr (.inr (.inr (fun _ => none)))))), (q5, .inl (kq5, 320, .inl (fun _ => 0))), (q6, .inl (kq6, 400, .inl (fun _ => 0)))] H := hP
  have hD : va_D A [(h0, .inr (2, [.null, .null, .ref q1, .ref q2, .ref q3, .ref q4, .ref q5, .ref q6, .int 0, .int 0, .int 0, .int 0, .int 0, .int 0, .int 0, .int 0, .int 0, .int 0, .int 0, .null])), (q1, .inl (kq1, 720, .inl (fun _ => 0))), (q2, .inl (kq2, 600, .inl (fun _ => 0))), (q3, .inl (kq3, 24, .inr (.inr (.inr (.inr (fun _ => none)))))), (q4, .inl (kq4, 24, .inr (.inr (.inr (.inr (fun _ => none)))))), (q5, .inl (kq5, 320, .inl (fun _ => 0))), (q6, .inl (kq6, 400, .inl (fun _ => 0)))] := hD
  refine lv_aload_n hx hb dX3_init_58 rfl (lv_at hl 0 rfl) ?_
  refine lv_aload_n hx hb dX3_init_59 rfl (lv_at hl 1 rfl) ?_
  refine va_putF (D := (dC, dI)) (ci := 2) (v := .ref q10) (ty := (.object "StatementRules2$Told")) (C := RX3) (T := TX3) (N := 20) hx hb hts i_X3_init_X3 tyX3 tyX3_ok nmX3 hown hK hP hD hS 0 rfl rfl 0 (by decide) (hts (.fieldLink RX3 36 "StatementRules2$Machine" "told" "LStatementRules2$Told;") k_X3_init_fieldLink_RX3_36_SR_Machine_told_LSR_Told) (fun _ h9 => h9) rfl hin rfl (by decide +kernel) rfl rfl (Nat.le_of_ble_eq_true rfl) dX3_init_60 (fun H locs hP hD hS => ?_)
  have hP : va_P (dC, dI) vwCl [(h0, .inr (2, [.ref q10, .null, .ref q1, .ref q2, .ref q3, .ref q4, .ref q5, .ref q6, .int 0, .int 0, .int 0, .int 0, .int 0, .int 0, .int 0, .int 0, .int 0, .int 0, .int 0, .null])), (q1, .inl (kq1, 720, .inl (fun _ => 0))), (q2, .inl (kq2, 600, .inl (fun _ => 0))), (q3, .inl (kq3, 24, .inr (.inr (.inr (.inr (fun _ => none)))))), (q4, .inl (kq4, 24, .inr (.inr (.inr (.inr (fun _ => none)))))), (q5, .inl (kq5, 320, .inl (fun _ => 0))), (q6, .inl (kq6, 400, .inl (fun _ => 0)))] H := hP
  have hD : va_D A [(h0, .inr (2, [.ref q10, .null, .ref q1, .ref q2, .ref q3, .ref q4, .ref q5, .ref q6, .int 0, .int 0, .int 0, .int 0, .int 0, .int 0, .int 0, .int 0, .int 0, .int 0, .int 0, .null])), (q1, .inl (kq1, 720, .inl (fun _ => 0))), (q2, .inl (kq2, 600, .inl (fun _ => 0))), (q3, .inl (kq3, 24, .inr (.inr (.inr (.inr (fun _ => none)))))), (q4, .inl (kq4, 24, .inr (.inr (.inr (.inr (fun _ => none)))))), (q5, .inl (kq5, 320, .inl (fun _ => 0))), (q6, .inl (kq6, 400, .inl (fun _ => 0)))] := hD
  refine lv_aload_n hx hb dX3_init_63 rfl (lv_at hl 0 rfl) ?_
  refine lv_aload_n hx hb dX3_init_64 rfl (lv_at hl 2 rfl) ?_
  refine va_putF (D := (dC, dI)) (ci := 2) (v := .ref q0) (ty := (.object "StatementRules2$Code")) (C := RX3) (T := TX3) (N := 20) hx hb hts i_X3_init_X3 tyX3 tyX3_ok nmX3 hown hK hP hD hS 0 rfl rfl 1 (by decide) (hts (.fieldLink RX3 40 "StatementRules2$Machine" "code" "LStatementRules2$Code;") k_X3_init_fieldLink_RX3_40_SR_Machine_code_LSR_Code) (fun _ h9 => h9) rfl hin rfl (by decide +kernel) rfl rfl (Nat.le_of_ble_eq_true rfl) dX3_init_65 (fun H locs hP hD hS => ?_)
  have hP : va_P (dC, dI) vwCl [(h0, .inr (2, [.ref q10, .ref q0, .ref q1, .ref q2, .ref q3, .ref q4, .ref q5, .ref q6, .int 0, .int 0, .int 0, .int 0, .int 0, .int 0, .int 0, .int 0, .int 0, .int 0, .int 0, .null])), (q1, .inl (kq1, 720, .inl (fun _ => 0))), (q2, .inl (kq2, 600, .inl (fun _ => 0))), (q3, .inl (kq3, 24, .inr (.inr (.inr (.inr (fun _ => none)))))), (q4, .inl (kq4, 24, .inr (.inr (.inr (.inr (fun _ => none)))))), (q5, .inl (kq5, 320, .inl (fun _ => 0))), (q6, .inl (kq6, 400, .inl (fun _ => 0)))] H := hP
  have hD : va_D A [(h0, .inr (2, [.ref q10, .ref q0, .ref q1, .ref q2, .ref q3, .ref q4, .ref q5, .ref q6, .int 0, .int 0, .int 0, .int 0, .int 0, .int 0, .int 0, .int 0, .int 0, .int 0, .int 0, .null])), (q1, .inl (kq1, 720, .inl (fun _ => 0))), (q2, .inl (kq2, 600, .inl (fun _ => 0))), (q3, .inl (kq3, 24, .inr (.inr (.inr (.inr (fun _ => none)))))), (q4, .inl (kq4, 24, .inr (.inr (.inr (.inr (fun _ => none)))))), (q5, .inl (kq5, 320, .inl (fun _ => 0))), (q6, .inl (kq6, 400, .inl (fun _ => 0)))] := hD
  have hP9 := hP.sub (ws' := [(h0, .inr (2, [.ref q10, .ref q0, .ref q1, .ref q2, .ref q3, .ref q4, .ref q5, .ref q6, .int 0, .int 0, .int 0, .int 0, .int 0, .int 0, .int 0, .int 0, .int 0, .int 0, .int 0, .null])), (q1, .inl (kq1, 720, .inl (fun _ => 0))), (q2, .inl (kq2, 600, .inl (fun _ => 0))), (q3, .inl (kq3, 24, .inr (.inr (.inr (.inr (fun _ => none)))))), (q4, .inl (kq4, 24, .inr (.inr (.inr (.inr (fun _ => none)))))), (q5, .inl (kq5, 320, .inl (fun _ => 0))), (q6, .inl (kq6, 400, .inl (fun _ => 0)))]) [0, 1, 2, 3, 4, 5, 6] rfl
  have hD9 := hD.sub (ws' := [(h0, .inr (2, [.ref q10, .ref q0, .ref q1, .ref q2, .ref q3, .ref q4, .ref q5, .ref q6, .int 0, .int 0, .int 0, .int 0, .int 0, .int 0, .int 0, .int 0, .int 0, .int 0, .int 0, .null])), (q1, .inl (kq1, 720, .inl (fun _ => 0))), (q2, .inl (kq2, 600, .inl (fun _ => 0))), (q3, .inl (kq3, 24, .inr (.inr (.inr (.inr (fun _ => none)))))), (q4, .inl (kq4, 24, .inr (.inr (.inr (.inr (fun _ => none)))))), (q5, .inl (kq5, 320, .inl (fun _ => 0))), (q6, .inl (kq6, 400, .inl (fun _ => 0)))]) [0, 1, 2, 3, 4, 5, 6] (by decide) rfl
  have hK9 := hK.sub (tys' := [(kq1, .int), (kq2, .int), (kq3, .object "StatementRules2$Frame"), (kq4, .object "StatementRules2$Thrown"), (kq5, .int), (kq6, .int)]) [0, 1, 2, 3, 4, 5] rfl
  exact W.vret hx hb hr (fun t ht hW => ⟨⟨(), rfl, trivial, q1, kq1, q2, kq2, q3, kq3, q4, kq4, q5, kq5, q6, kq6, by rw [ht]; exact hP9, va_K.moved hW.alike hK9, hD9⟩, hS.F ht⟩) hS.2.2 dX3_init_68
end
