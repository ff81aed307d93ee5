theorem zg_nil : ∀ w ∈ ([] : List Cond), goodWord w = true := fun _ h => absurd h List.not_mem_nil
theorem zg_cons {c : Cond} {l : List Cond} (hc : goodWord c = true) (hl : ∀ w ∈ l, goodWord w = true) : ∀ w ∈ c :: l, goodWord w = true := fun w h => (List.mem_cons.mp h).elim (fun e => by rw [e]; exact hc) (hl w)
theorem zg_app {a b : List Cond} (ha : ∀ w ∈ a, goodWord w = true) (hb : ∀ w ∈ b, goodWord w = true) : ∀ w ∈ a ++ b, goodWord w = true := fun w h => (List.mem_append.mp h).elim (ha w) (hb w)
theorem zg_lit {l : List Cond} (h : l.all goodWord = true) : ∀ w ∈ l, goodWord w = true := List.all_eq_true.mp h
theorem zg_of {big ws : List Cond} (hm : ∀ w ∈ ws, w ∈ big) (hg : ∀ w ∈ ws, goodWord w = true) : GoodIn big ws := fun w h => ⟨hm w h, good_of_word (hg w h)⟩
theorem zt_nil : ∀ w ∈ ([] : List Cond), w ∈ lw_tbl := fun _ h => absurd h List.not_mem_nil
theorem zt_cons {c : Cond} {l : List Cond} (hc : c ∈ lw_tbl) (hl : ∀ w ∈ l, w ∈ lw_tbl) : ∀ w ∈ c :: l, w ∈ lw_tbl := fun w h => (List.mem_cons.mp h).elim (fun e => by rw [e]; exact hc) (hl w)
theorem zt_app {a b : List Cond} (ha : ∀ w ∈ a, w ∈ lw_tbl) (hb : ∀ w ∈ b, w ∈ lw_tbl) : ∀ w ∈ a ++ b, w ∈ lw_tbl := fun w h => (List.mem_append.mp h).elim (ha w) (hb w)
theorem wgcX9 : ∀ w ∈ wsX90, goodWord w = true := zg_lit (by decide +kernel)
theorem wgcX10 : ∀ w ∈ wsX100, goodWord w = true := zg_lit (by decide +kernel)
theorem wgcX4 : ∀ w ∈ wsX40, goodWord w = true := zg_lit (by decide +kernel)
theorem wgcX0 : ∀ w ∈ wsX00, goodWord w = true := zg_lit (by decide +kernel)
theorem wgcX11 : ∀ w ∈ wsX110, goodWord w = true := zg_lit (by decide +kernel)
theorem wgcX5 : ∀ w ∈ wsX50, goodWord w = true := zg_lit (by decide +kernel)
def woX9_isDigit : List Cond := []
def wzX9_isDigit : List Cond := .code yX9_isDigit cX9_isDigit 1 (some .boolean) :: (woX9_isDigit ++ [])
theorem wgX9_isDigit : ∀ w ∈ wzX9_isDigit, goodWord w = true := zg_cons rfl (zg_app (zg_lit (by decide +kernel)) zg_nil)
def woX9_isLetter : List Cond := []
def wzX9_isLetter : List Cond := .code yX9_isLetter cX9_isLetter 1 (some .boolean) :: (woX9_isLetter ++ [])
theorem wgX9_isLetter : ∀ w ∈ wzX9_isLetter, goodWord w = true := zg_cons rfl (zg_app (zg_lit (by decide +kernel)) zg_nil)
def woX9_byteAt : List Cond := [.fieldLink RX9 31 "StatementRules2$Tokens" "length" "I", .fieldLink RX9 15 "StatementRules2$Tokens" "tape" "[I"]
def wzX9_byteAt : List Cond := .code yX9_byteAt cX9_byteAt 2 (some .int) :: (woX9_byteAt ++ (wsX90 ++ []))
theorem wgX9_byteAt : ∀ w ∈ wzX9_byteAt, goodWord w = true := zg_cons rfl (zg_app (zg_lit (by decide +kernel)) (zg_app wgcX9 zg_nil))
def woX9_takeNumber : List Cond := [.fieldLink RX9 66 "StatementRules2$Tokens" "value" "I", .fieldLink RX9 34 "StatementRules2$Tokens" "next" "I", .fieldLink RX9 47 "StatementRules2$Tokens" "place" "I", .fieldLink RX9 40 "StatementRules2$Tokens" "type" "I", .methodLink RX9 43 yX9_byteAt, .instanceMethod yX9_byteAt, .selects RX9 yX9_byteAt yX9_byteAt, .initialized RX9, .methodLink RX9 50 yX9_isDigit, .static yX9_isDigit]
def wzX9_takeNumber : List Cond := .code yX9_takeNumber cX9_takeNumber 2 none :: (woX9_takeNumber ++ (wsX90 ++ (wzX9_byteAt ++ (wzX9_isDigit ++ []))))
theorem wgX9_takeNumber : ∀ w ∈ wzX9_takeNumber, goodWord w = true := zg_cons rfl (zg_app (zg_lit (by decide +kernel)) (zg_app wgcX9 (zg_app wgX9_byteAt (zg_app wgX9_isDigit zg_nil))))
def woX9_longSign : List Cond := []
def wzX9_longSign : List Cond := .code yX9_longSign cX9_longSign 2 (some .int) :: (woX9_longSign ++ [])
theorem wgX9_longSign : ∀ w ∈ wzX9_longSign, goodWord w = true := zg_cons rfl (zg_app (zg_lit (by decide +kernel)) zg_nil)
def woX9_isSign : List Cond := []
def wzX9_isSign : List Cond := .code yX9_isSign cX9_isSign 1 (some .boolean) :: (woX9_isSign ++ [])
theorem wgX9_isSign : ∀ w ∈ wzX9_isSign, goodWord w = true := zg_cons rfl (zg_app (zg_lit (by decide +kernel)) zg_nil)
def woX9_rowType : List Cond := [.fieldLink RX9 69 "StatementRules2$Tokens" "name" "J", .constantLong RX9 76 (255), .constantLong RX9 78 (48), .fieldLink RX9 66 "StatementRules2$Tokens" "value" "I", .constantLong RX9 84 (101), .constantLong RX9 86 (109), .constantLong RX9 88 (114), .constantLong RX9 80 (9), .constantLong RX9 82 (49), .fieldLink RX9 9 "StatementRules2$Tokens" "words" "[J"]
def wzX9_rowType : List Cond := .code yX9_rowType cX9_rowType 8 (some .int) :: (woX9_rowType ++ (wsX90 ++ []))
theorem wgX9_rowType : ∀ w ∈ wzX9_rowType, goodWord w = true := zg_cons rfl (zg_app (zg_lit (by decide +kernel)) (zg_app wgcX9 zg_nil))
def woX9_takeRow : List Cond := [.fieldLink RX9 69 "StatementRules2$Tokens" "name" "J", .fieldLink RX9 34 "StatementRules2$Tokens" "next" "I", .fieldLink RX9 47 "StatementRules2$Tokens" "place" "I", .fieldLink RX9 40 "StatementRules2$Tokens" "type" "I", .methodLink RX9 73 yX9_rowType, .instanceMethod yX9_rowType, .selects RX9 yX9_rowType yX9_rowType, .initialized RX9, .methodLink RX9 43 yX9_byteAt, .instanceMethod yX9_byteAt, .selects RX9 yX9_byteAt yX9_byteAt, .methodLink RX9 50 yX9_isDigit, .static yX9_isDigit, .methodLink RX9 57 yX9_isLetter, .static yX9_isLetter]
def wzX9_takeRow : List Cond := .code yX9_takeRow cX9_takeRow 2 none :: (woX9_takeRow ++ (wsX90 ++ (wzX9_rowType ++ (wzX9_byteAt ++ (wzX9_isDigit ++ (wzX9_isLetter ++ []))))))
theorem wgX9_takeRow : ∀ w ∈ wzX9_takeRow, goodWord w = true := zg_cons rfl (zg_app (zg_lit (by decide +kernel)) (zg_app wgcX9 (zg_app wgX9_rowType (zg_app wgX9_byteAt (zg_app wgX9_isDigit (zg_app wgX9_isLetter zg_nil))))))
def woX9_takeSign : List Cond := [.fieldLink RX9 34 "StatementRules2$Tokens" "next" "I", .fieldLink RX9 40 "StatementRules2$Tokens" "type" "I", .methodLink RX9 43 yX9_byteAt, .instanceMethod yX9_byteAt, .selects RX9 yX9_byteAt yX9_byteAt, .initialized RX9, .methodLink RX9 90 yX9_longSign, .static yX9_longSign, .methodLink RX9 94 yX9_isSign, .static yX9_isSign]
def wzX9_takeSign : List Cond := .code yX9_takeSign cX9_takeSign 2 none :: (woX9_takeSign ++ (wsX90 ++ (wzX9_byteAt ++ (wzX9_longSign ++ (wzX9_isSign ++ [])))))
theorem wgX9_takeSign : ∀ w ∈ wzX9_takeSign, goodWord w = true := zg_cons rfl (zg_app (zg_lit (by decide +kernel)) (zg_app wgcX9 (zg_app wgX9_byteAt (zg_app wgX9_longSign (zg_app wgX9_isSign zg_nil)))))
def woX9_advance : List Cond := [.fieldLink RX9 34 "StatementRules2$Tokens" "next" "I", .fieldLink RX9 47 "StatementRules2$Tokens" "place" "I", .fieldLink RX9 31 "StatementRules2$Tokens" "length" "I", .fieldLink RX9 40 "StatementRules2$Tokens" "type" "I", .methodLink RX9 43 yX9_byteAt, .instanceMethod yX9_byteAt, .selects RX9 yX9_byteAt yX9_byteAt, .initialized RX9, .methodLink RX9 50 yX9_isDigit, .static yX9_isDigit, .methodLink RX9 57 yX9_isLetter, .static yX9_isLetter, .methodLink RX9 63 yX9_takeSign, .instanceMethod yX9_takeSign, .selects RX9 yX9_takeSign yX9_takeSign, .methodLink RX9 60 yX9_takeRow, .instanceMethod yX9_takeRow, .selects RX9 yX9_takeRow yX9_takeRow, .methodLink RX9 54 yX9_takeNumber, .instanceMethod yX9_takeNumber, .selects RX9 yX9_takeNumber yX9_takeNumber]
def wzX9_advance : List Cond := .code yX9_advance cX9_advance 2 none :: (woX9_advance ++ (wsX90 ++ (wzX9_byteAt ++ (wzX9_isDigit ++ (wzX9_isLetter ++ (wzX9_takeSign ++ (wzX9_takeRow ++ (wzX9_takeNumber ++ []))))))))
theorem wgX9_advance : ∀ w ∈ wzX9_advance, goodWord w = true := zg_cons rfl (zg_app (zg_lit (by decide +kernel)) (zg_app wgcX9 (zg_app wgX9_byteAt (zg_app wgX9_isDigit (zg_app wgX9_isLetter (zg_app wgX9_takeSign (zg_app wgX9_takeRow (zg_app wgX9_takeNumber zg_nil))))))))
def woX9_start : List Cond := [.fieldLink RX9 31 "StatementRules2$Tokens" "length" "I", .fieldLink RX9 34 "StatementRules2$Tokens" "next" "I", .methodLink RX9 37 yX9_advance, .instanceMethod yX9_advance, .selects RX9 yX9_advance yX9_advance, .initialized RX9]
def wzX9_start : List Cond := .code yX9_start cX9_start 2 none :: (woX9_start ++ (wsX90 ++ (wzX9_advance ++ [])))
theorem wgX9_start : ∀ w ∈ wzX9_start, goodWord w = true := zg_cons rfl (zg_app (zg_lit (by decide +kernel)) (zg_app wgcX9 (zg_app wgX9_advance zg_nil)))
def woX9_stop : List Cond := [.fieldLink RX9 31 "StatementRules2$Tokens" "length" "I", .fieldLink RX9 34 "StatementRules2$Tokens" "next" "I", .fieldLink RX9 40 "StatementRules2$Tokens" "type" "I"]
def wzX9_stop : List Cond := .code yX9_stop cX9_stop 1 none :: (woX9_stop ++ (wsX90 ++ []))
theorem wgX9_stop : ∀ w ∈ wzX9_stop, goodWord w = true := zg_cons rfl (zg_app (zg_lit (by decide +kernel)) (zg_app wgcX9 zg_nil))
def woX11_at : List Cond := []
def wzX11_at : List Cond := .code yX11_at cX11_at 2 (some .int) :: (woX11_at ++ [])
theorem wgX11_at : ∀ w ∈ wzX11_at, goodWord w = true := zg_cons rfl (zg_app (zg_lit (by decide +kernel)) zg_nil)
def woX11_put : List Cond := []
def wzX11_put : List Cond := .code yX11_put cX11_put 3 none :: (woX11_put ++ [])
theorem wgX11_put : ∀ w ∈ wzX11_put, goodWord w = true := zg_cons rfl (zg_app (zg_lit (by decide +kernel)) zg_nil)
def woX10_isKind : List Cond := [.fieldLink RX10 24 "StatementRules2$Told" "kindCount" "I"]
def wzX10_isKind : List Cond := .code yX10_isKind cX10_isKind 2 (some .boolean) :: (woX10_isKind ++ (wsX100 ++ []))
theorem wgX10_isKind : ∀ w ∈ wzX10_isKind, goodWord w = true := zg_cons rfl (zg_app (zg_lit (by decide +kernel)) (zg_app wgcX10 zg_nil))
def woX10_isFull : List Cond := [.fieldLink RX10 24 "StatementRules2$Told" "kindCount" "I"]
def wzX10_isFull : List Cond := .code yX10_isFull cX10_isFull 1 (some .boolean) :: (woX10_isFull ++ (wsX100 ++ []))
theorem wgX10_isFull : ∀ w ∈ wzX10_isFull, goodWord w = true := zg_cons rfl (zg_app (zg_lit (by decide +kernel)) (zg_app wgcX10 zg_nil))
def woX10_addKind : List Cond := [.fieldLink RX10 9 "StatementRules2$Told" "above" "[I", .fieldLink RX10 24 "StatementRules2$Told" "kindCount" "I", .initialized RX11, .static yX11_put]
def wzX10_addKind : List Cond := .code yX10_addKind cX10_addKind 2 (some .int) :: (woX10_addKind ++ (wsX100 ++ (wzX11_put ++ [])))
theorem wgX10_addKind : ∀ w ∈ wzX10_addKind, goodWord w = true := zg_cons rfl (zg_app (zg_lit (by decide +kernel)) (zg_app wgcX10 (zg_app wgX11_put zg_nil)))
def woX10_isUnder : List Cond := [.fieldLink RX10 9 "StatementRules2$Told" "above" "[I", .initialized RX11, .static yX11_at]
def wzX10_isUnder : List Cond := .code yX10_isUnder cX10_isUnder 5 (some .boolean) :: (woX10_isUnder ++ (wsX100 ++ (wzX11_at ++ [])))
theorem wgX10_isUnder : ∀ w ∈ wzX10_isUnder, goodWord w = true := zg_cons rfl (zg_app (zg_lit (by decide +kernel)) (zg_app wgcX10 (zg_app wgX11_at zg_nil)))
def woX10_tellResource : List Cond := [.fieldLink RX10 15 "StatementRules2$Told" "isNull" "[I", .initialized RX11, .static yX11_put, .fieldLink RX10 18 "StatementRules2$Told" "opening" "[I", .fieldLink RX10 21 "StatementRules2$Told" "closing" "[I"]
def wzX10_tellResource : List Cond := .code yX10_tellResource cX10_tellResource 5 none :: (woX10_tellResource ++ (wsX100 ++ (wzX11_put ++ [])))
theorem wgX10_tellResource : ∀ w ∈ wzX10_tellResource, goodWord w = true := zg_cons rfl (zg_app (zg_lit (by decide +kernel)) (zg_app wgcX10 (zg_app wgX11_put zg_nil)))
def woX4_find : List Cond := [.fieldLink RX4 20 "StatementRules2$Names" "count" "I", .fieldLink RX4 7 "StatementRules2$Names" "names" "[J"]
def wzX4_find : List Cond := .code yX4_find cX4_find 4 (some .int) :: (woX4_find ++ (wsX40 ++ []))
theorem wgX4_find : ∀ w ∈ wzX4_find, goodWord w = true := zg_cons rfl (zg_app (zg_lit (by decide +kernel)) (zg_app wgcX4 zg_nil))
def woX4_cellOf : List Cond := [.fieldLink RX4 13 "StatementRules2$Names" "cells" "[I", .initialized RX11, .static yX11_at]
def wzX4_cellOf : List Cond := .code yX4_cellOf cX4_cellOf 2 (some .int) :: (woX4_cellOf ++ (wsX40 ++ (wzX11_at ++ [])))
theorem wgX4_cellOf : ∀ w ∈ wzX4_cellOf, goodWord w = true := zg_cons rfl (zg_app (zg_lit (by decide +kernel)) (zg_app wgcX4 (zg_app wgX11_at zg_nil)))
def woX4_frameOf : List Cond := [.fieldLink RX4 17 "StatementRules2$Names" "frames" "[I", .initialized RX11, .static yX11_at]
def wzX4_frameOf : List Cond := .code yX4_frameOf cX4_frameOf 2 (some .int) :: (woX4_frameOf ++ (wsX40 ++ (wzX11_at ++ [])))
theorem wgX4_frameOf : ∀ w ∈ wzX4_frameOf, goodWord w = true := zg_cons rfl (zg_app (zg_lit (by decide +kernel)) (zg_app wgcX4 (zg_app wgX11_at zg_nil)))
def woX4_isCaught : List Cond := [.fieldLink RX4 17 "StatementRules2$Names" "frames" "[I", .initialized RX11, .static yX11_at]
def wzX4_isCaught : List Cond := .code yX4_isCaught cX4_isCaught 2 (some .boolean) :: (woX4_isCaught ++ (wsX40 ++ (wzX11_at ++ [])))
theorem wgX4_isCaught : ∀ w ∈ wzX4_isCaught, goodWord w = true := zg_cons rfl (zg_app (zg_lit (by decide +kernel)) (zg_app wgcX4 (zg_app wgX11_at zg_nil)))
def woX0_clear : List Cond := [.fieldLink RX0 27 "StatementRules2$Code" "size" "I", .fieldLink RX0 31 "StatementRules2$Code" "targetCount" "I", .fieldLink RX0 34 "StatementRules2$Code" "caseCount" "I", .fieldLink RX0 37 "StatementRules2$Code" "cellCount" "I", .fieldLink RX0 40 "StatementRules2$Code" "statements" "I", .fieldLink RX0 43 "StatementRules2$Code" "toldNames" "I", .fieldLink RX0 46 "StatementRules2$Code" "jumps" "I", .fieldLink RX0 49 "StatementRules2$Code" "endReached" "Z"]
def wzX0_clear : List Cond := .code yX0_clear cX0_clear 1 none :: (woX0_clear ++ (wsX00 ++ []))
theorem wgX0_clear : ∀ w ∈ wzX0_clear, goodWord w = true := zg_cons rfl (zg_app (zg_lit (by decide +kernel)) (zg_app wgcX0 zg_nil))
def woX0_add : List Cond := [.fieldLink RX0 9 "StatementRules2$Code" "ops" "[I", .fieldLink RX0 27 "StatementRules2$Code" "size" "I", .initialized RX11, .static yX11_put, .fieldLink RX0 15 "StatementRules2$Code" "arguments" "[I"]
def wzX0_add : List Cond := .code yX0_add cX0_add 3 none :: (woX0_add ++ (wsX00 ++ (wzX11_put ++ [])))
theorem wgX0_add : ∀ w ∈ wzX0_add, goodWord w = true := zg_cons rfl (zg_app (zg_lit (by decide +kernel)) (zg_app wgcX0 (zg_app wgX11_put zg_nil)))
def woX0_newTarget : List Cond := [.fieldLink RX0 18 "StatementRules2$Code" "targets" "[I", .fieldLink RX0 31 "StatementRules2$Code" "targetCount" "I", .initialized RX11, .static yX11_put]
def wzX0_newTarget : List Cond := .code yX0_newTarget cX0_newTarget 1 (some .int) :: (woX0_newTarget ++ (wsX00 ++ (wzX11_put ++ [])))
theorem wgX0_newTarget : ∀ w ∈ wzX0_newTarget, goodWord w = true := zg_cons rfl (zg_app (zg_lit (by decide +kernel)) (zg_app wgcX0 (zg_app wgX11_put zg_nil)))
def woX0_aim : List Cond := [.fieldLink RX0 18 "StatementRules2$Code" "targets" "[I", .fieldLink RX0 27 "StatementRules2$Code" "size" "I", .initialized RX11, .static yX11_put]
def wzX0_aim : List Cond := .code yX0_aim cX0_aim 2 none :: (woX0_aim ++ (wsX00 ++ (wzX11_put ++ [])))
theorem wgX0_aim : ∀ w ∈ wzX0_aim, goodWord w = true := zg_cons rfl (zg_app (zg_lit (by decide +kernel)) (zg_app wgcX0 (zg_app wgX11_put zg_nil)))
def woX0_newCells : List Cond := [.fieldLink RX0 37 "StatementRules2$Code" "cellCount" "I"]
def wzX0_newCells : List Cond := .code yX0_newCells cX0_newCells 2 (some .int) :: (woX0_newCells ++ (wsX00 ++ []))
theorem wgX0_newCells : ∀ w ∈ wzX0_newCells, goodWord w = true := zg_cons rfl (zg_app (zg_lit (by decide +kernel)) (zg_app wgcX0 zg_nil))
def woX0_addCase : List Cond := [.fieldLink RX0 21 "StatementRules2$Code" "caseValues" "[I", .fieldLink RX0 34 "StatementRules2$Code" "caseCount" "I", .initialized RX11, .static yX11_put, .fieldLink RX0 24 "StatementRules2$Code" "caseTargets" "[I"]
def wzX0_addCase : List Cond := .code yX0_addCase cX0_addCase 3 none :: (woX0_addCase ++ (wsX00 ++ (wzX11_put ++ [])))
theorem wgX0_addCase : ∀ w ∈ wzX0_addCase, goodWord w = true := zg_cons rfl (zg_app (zg_lit (by decide +kernel)) (zg_app wgcX0 (zg_app wgX11_put zg_nil)))
def woX0_hasCase : List Cond := [.fieldLink RX0 34 "StatementRules2$Code" "caseCount" "I", .fieldLink RX0 21 "StatementRules2$Code" "caseValues" "[I", .initialized RX11, .static yX11_at]
def wzX0_hasCase : List Cond := .code yX0_hasCase cX0_hasCase 4 (some .boolean) :: (woX0_hasCase ++ (wsX00 ++ (wzX11_at ++ [])))
theorem wgX0_hasCase : ∀ w ∈ wzX0_hasCase, goodWord w = true := zg_cons rfl (zg_app (zg_lit (by decide +kernel)) (zg_app wgcX0 (zg_app wgX11_at zg_nil)))
def woX0_addCases : List Cond := [.fieldLink RX0 34 "StatementRules2$Code" "caseCount" "I", .fieldLink RX0 21 "StatementRules2$Code" "caseValues" "[I", .initialized RX11, .static yX11_at, .fieldLink RX0 24 "StatementRules2$Code" "caseTargets" "[I", .methodLink RX0 61 yX0_add, .instanceMethod yX0_add, .selects RX0 yX0_add yX0_add, .initialized RX0]
def wzX0_addCases : List Cond := .code yX0_addCases cX0_addCases 4 none :: (woX0_addCases ++ (wsX00 ++ (wzX0_add ++ (wzX11_at ++ []))))
theorem wgX0_addCases : ∀ w ∈ wzX0_addCases, goodWord w = true := zg_cons rfl (zg_app (zg_lit (by decide +kernel)) (zg_app wgcX0 (zg_app wgX0_add (zg_app wgX11_at zg_nil))))
def woX11_addBytes : List Cond := [.fieldLink RX11 9 "StatementRules2" "tape" "[I", .fieldLink RX11 50 "StatementRules2" "length" "I", .methodLink RX11 58 yX11_put, .static yX11_put, .initialized RX11]
def wzX11_addBytes : List Cond := .code yX11_addBytes cX11_addBytes 3 none :: (woX11_addBytes ++ (wsX110 ++ (wzX11_put ++ [])))
theorem wgX11_addBytes : ∀ w ∈ wzX11_addBytes, goodWord w = true := zg_cons rfl (zg_app (zg_lit (by decide +kernel)) (zg_app wgcX11 (zg_app wgX11_put zg_nil)))
def woX11_feed : List Cond := [.fieldLink RX11 50 "StatementRules2" "length" "I", .methodLink RX11 54 yX11_addBytes, .instanceMethod yX11_addBytes, .selects RX11 yX11_addBytes yX11_addBytes, .initialized RX11]
def wzX11_feed : List Cond := .code yX11_feed cX11_feed 6 (some .int) :: (woX11_feed ++ (wsX110 ++ (wzX11_addBytes ++ [])))
theorem wgX11_feed : ∀ w ∈ wzX11_feed, goodWord w = true := zg_cons rfl (zg_app (zg_lit (by decide +kernel)) (zg_app wgcX11 (zg_app wgX11_addBytes zg_nil)))
def woX11_cut : List Cond := [.fieldLink RX11 50 "StatementRules2" "length" "I"]
def wzX11_cut : List Cond := .code yX11_cut cX11_cut 3 (some .int) :: (woX11_cut ++ (wsX110 ++ []))
theorem wgX11_cut : ∀ w ∈ wzX11_cut, goodWord w = true := zg_cons rfl (zg_app (zg_lit (by decide +kernel)) (zg_app wgcX11 zg_nil))
def woX11_fault : List Cond := [.fieldLink RX11 91 "StatementRules2" "latestFault" "I"]
def wzX11_fault : List Cond := .code yX11_fault cX11_fault 1 (some .int) :: (woX11_fault ++ (wsX110 ++ []))
theorem wgX11_fault : ∀ w ∈ wzX11_fault, goodWord w = true := zg_cons rfl (zg_app (zg_lit (by decide +kernel)) (zg_app wgcX11 zg_nil))
def woX11_kind : List Cond := [.fieldLink RX11 16 "StatementRules2" "told" "LStatementRules2$Told;", .methodLink RX11 62 yX10_isKind, .instanceMethod yX10_isKind, .selects RX10 yX10_isKind yX10_isKind, .initialized RX10, .methodLink RX11 66 yX10_isFull, .instanceMethod yX10_isFull, .selects RX10 yX10_isFull yX10_isFull, .methodLink RX11 70 yX10_addKind, .instanceMethod yX10_addKind, .selects RX10 yX10_addKind yX10_addKind]
def wzX11_kind : List Cond := .code yX11_kind cX11_kind 2 (some .int) :: (woX11_kind ++ (wsX110 ++ (wzX10_isKind ++ (wzX10_isFull ++ (wzX10_addKind ++ [])))))
theorem wgX11_kind : ∀ w ∈ wzX11_kind, goodWord w = true := zg_cons rfl (zg_app (zg_lit (by decide +kernel)) (zg_app wgcX11 (zg_app wgX10_isKind (zg_app wgX10_isFull (zg_app wgX10_addKind zg_nil)))))
def woX11_isKindOrNothing : List Cond := [.fieldLink RX11 16 "StatementRules2" "told" "LStatementRules2$Told;", .methodLink RX11 62 yX10_isKind, .instanceMethod yX10_isKind, .selects RX10 yX10_isKind yX10_isKind, .initialized RX10]
def wzX11_isKindOrNothing : List Cond := .code yX11_isKindOrNothing cX11_isKindOrNothing 2 (some .boolean) :: (woX11_isKindOrNothing ++ (wsX110 ++ (wzX10_isKind ++ [])))
theorem wgX11_isKindOrNothing : ∀ w ∈ wzX11_isKindOrNothing, goodWord w = true := zg_cons rfl (zg_app (zg_lit (by decide +kernel)) (zg_app wgcX11 (zg_app wgX10_isKind zg_nil)))
def woX11_resource : List Cond := [.fieldLink RX11 16 "StatementRules2" "told" "LStatementRules2$Told;", .methodLink RX11 74 yX11_isKindOrNothing, .instanceMethod yX11_isKindOrNothing, .selects RX11 yX11_isKindOrNothing yX11_isKindOrNothing, .initialized RX11, .methodLink RX11 77 yX10_tellResource, .instanceMethod yX10_tellResource, .selects RX10 yX10_tellResource yX10_tellResource, .initialized RX10]
def wzX11_resource : List Cond := .code yX11_resource cX11_resource 5 (some .int) :: (woX11_resource ++ (wsX110 ++ (wzX11_isKindOrNothing ++ (wzX10_tellResource ++ []))))
theorem wgX11_resource : ∀ w ∈ wzX11_resource, goodWord w = true := zg_cons rfl (zg_app (zg_lit (by decide +kernel)) (zg_app wgcX11 (zg_app wgX11_isKindOrNothing (zg_app wgX10_tellResource zg_nil))))
def woX11_under : List Cond := [.fieldLink RX11 16 "StatementRules2" "told" "LStatementRules2$Told;", .methodLink RX11 62 yX10_isKind, .instanceMethod yX10_isKind, .selects RX10 yX10_isKind yX10_isKind, .initialized RX10, .methodLink RX11 144 yX10_isUnder, .instanceMethod yX10_isUnder, .selects RX10 yX10_isUnder yX10_isUnder]
def wzX11_under : List Cond := .code yX11_under cX11_under 3 (some .int) :: (woX11_under ++ (wsX110 ++ (wzX10_isKind ++ (wzX10_isUnder ++ []))))
theorem wgX11_under : ∀ w ∈ wzX11_under, goodWord w = true := zg_cons rfl (zg_app (zg_lit (by decide +kernel)) (zg_app wgcX11 (zg_app wgX10_isKind (zg_app wgX10_isUnder zg_nil))))
def woX11_asserts : List Cond := [.fieldLink RX11 16 "StatementRules2" "told" "LStatementRules2$Told;"]
def wzX11_asserts : List Cond := .code yX11_asserts cX11_asserts 3 (some .int) :: (woX11_asserts ++ (wsX110 ++ (wsX100 ++ [])))
theorem wgX11_asserts : ∀ w ∈ wzX11_asserts, goodWord w = true := zg_cons rfl (zg_app (zg_lit (by decide +kernel)) (zg_app wgcX11 (zg_app wgcX10 zg_nil)))
def woX5_isLoop : List Cond := [.fieldLink RX5 9 "StatementRules2$Open" "sort" "I"]
def wzX5_isLoop : List Cond := .code yX5_isLoop cX5_isLoop 1 (some .boolean) :: (woX5_isLoop ++ (wsX50 ++ []))
theorem wgX5_isLoop : ∀ w ∈ wzX5_isLoop, goodWord w = true := zg_cons rfl (zg_app (zg_lit (by decide +kernel)) (zg_app wgcX5 zg_nil))
def woX5_hasOneBody : List Cond := [.fieldLink RX5 9 "StatementRules2$Open" "sort" "I", .methodLink RX5 15 yX5_isLoop, .instanceMethod yX5_isLoop, .selects RX5 yX5_isLoop yX5_isLoop, .initialized RX5]
def wzX5_hasOneBody : List Cond := .code yX5_hasOneBody cX5_hasOneBody 1 (some .boolean) :: (woX5_hasOneBody ++ (wsX50 ++ (wzX5_isLoop ++ [])))
theorem wgX5_hasOneBody : ∀ w ∈ wzX5_hasOneBody, goodWord w = true := zg_cons rfl (zg_app (zg_lit (by decide +kernel)) (zg_app wgcX5 (zg_app wgX5_isLoop zg_nil)))
set_option maxRecDepth 20000 in
theorem hX9_takeNumber_X9_byteAt_v43 : GoodIn wzX9_takeNumber (wsV RX9 43 RX9 yX9_byteAt wzX9_byteAt) := goodIn_app (goodIn_r _ [5, 6, 7, 8] rfl (by decide +kernel)) (zg_of (fun _ h => List.mem_cons_of_mem _ (List.mem_append_right _ (List.mem_append_right _ (List.mem_append_left _ (h))))) wgX9_byteAt)
set_option maxRecDepth 20000 in
theorem hX9_takeNumber_X9_isDigit_s50 : GoodIn wzX9_takeNumber (va_wsS RX9 50 yX9_isDigit wzX9_isDigit) := goodIn_app (goodIn_r _ [9, 10, 8] rfl (by decide +kernel)) (zg_of (fun _ h => List.mem_cons_of_mem _ (List.mem_append_right _ (List.mem_append_right _ (List.mem_append_right _ (List.mem_append_left _ (h)))))) wgX9_isDigit)
set_option maxRecDepth 20000 in
theorem hX9_takeRow_X9_rowType_v73 : GoodIn wzX9_takeRow (wsV RX9 73 RX9 yX9_rowType wzX9_rowType) := goodIn_app (goodIn_r _ [5, 6, 7, 8] rfl (by decide +kernel)) (zg_of (fun _ h => List.mem_cons_of_mem _ (List.mem_append_right _ (List.mem_append_right _ (List.mem_append_left _ (h))))) wgX9_rowType)
set_option maxRecDepth 20000 in
theorem hX9_takeRow_X9_byteAt_v43 : GoodIn wzX9_takeRow (wsV RX9 43 RX9 yX9_byteAt wzX9_byteAt) := goodIn_app (goodIn_r _ [9, 10, 11, 8] rfl (by decide +kernel)) (zg_of (fun _ h => List.mem_cons_of_mem _ (List.mem_append_right _ (List.mem_append_right _ (List.mem_append_right _ (List.mem_append_left _ (h)))))) wgX9_byteAt)
set_option maxRecDepth 20000 in
theorem hX9_takeRow_X9_isDigit_s50 : GoodIn wzX9_takeRow (va_wsS RX9 50 yX9_isDigit wzX9_isDigit) := goodIn_app (goodIn_r _ [12, 13, 8] rfl (by decide +kernel)) (zg_of (fun _ h => List.mem_cons_of_mem _ (List.mem_append_right _ (List.mem_append_right _ (List.mem_append_right _ (List.mem_append_right _ (List.mem_append_left _ (h))))))) wgX9_isDigit)
set_option maxRecDepth 20000 in
theorem hX9_takeRow_X9_isLetter_s57 : GoodIn wzX9_takeRow (va_wsS RX9 57 yX9_isLetter wzX9_isLetter) := goodIn_app (goodIn_r _ [14, 15, 8] rfl (by decide +kernel)) (zg_of (fun _ h => List.mem_cons_of_mem _ (List.mem_append_right _ (List.mem_append_right _ (List.mem_append_right _ (List.mem_append_right _ (List.mem_append_right _ (List.mem_append_left _ (h)))))))) wgX9_isLetter)
set_option maxRecDepth 20000 in
theorem hX9_takeSign_X9_byteAt_v43 : GoodIn wzX9_takeSign (wsV RX9 43 RX9 yX9_byteAt wzX9_byteAt) := goodIn_app (goodIn_r _ [3, 4, 5, 6] rfl (by decide +kernel)) (zg_of (fun _ h => List.mem_cons_of_mem _ (List.mem_append_right _ (List.mem_append_right _ (List.mem_append_left _ (h))))) wgX9_byteAt)
set_option maxRecDepth 20000 in
theorem hX9_takeSign_X9_longSign_s90 : GoodIn wzX9_takeSign (va_wsS RX9 90 yX9_longSign wzX9_longSign) := goodIn_app (goodIn_r _ [7, 8, 6] rfl (by decide +kernel)) (zg_of (fun _ h => List.mem_cons_of_mem _ (List.mem_append_right _ (List.mem_append_right _ (List.mem_append_right _ (List.mem_append_left _ (h)))))) wgX9_longSign)
set_option maxRecDepth 20000 in
theorem hX9_takeSign_X9_isSign_s94 : GoodIn wzX9_takeSign (va_wsS RX9 94 yX9_isSign wzX9_isSign) := goodIn_app (goodIn_r _ [9, 10, 6] rfl (by decide +kernel)) (zg_of (fun _ h => List.mem_cons_of_mem _ (List.mem_append_right _ (List.mem_append_right _ (List.mem_append_right _ (List.mem_append_right _ (List.mem_append_left _ (h))))))) wgX9_isSign)
set_option maxRecDepth 20000 in
theorem hX9_advance_X9_byteAt_v43 : GoodIn wzX9_advance (wsV RX9 43 RX9 yX9_byteAt wzX9_byteAt) := goodIn_app (goodIn_r _ [5, 6, 7, 8] rfl (by decide +kernel)) (zg_of (fun _ h => List.mem_cons_of_mem _ (List.mem_append_right _ (List.mem_append_right _ (List.mem_append_left _ (h))))) wgX9_byteAt)
set_option maxRecDepth 20000 in
theorem hX9_advance_X9_isDigit_s50 : GoodIn wzX9_advance (va_wsS RX9 50 yX9_isDigit wzX9_isDigit) := goodIn_app (goodIn_r _ [9, 10, 8] rfl (by decide +kernel)) (zg_of (fun _ h => List.mem_cons_of_mem _ (List.mem_append_right _ (List.mem_append_right _ (List.mem_append_right _ (List.mem_append_left _ (h)))))) wgX9_isDigit)
set_option maxRecDepth 20000 in
theorem hX9_advance_X9_isLetter_s57 : GoodIn wzX9_advance (va_wsS RX9 57 yX9_isLetter wzX9_isLetter) := goodIn_app (goodIn_r _ [11, 12, 8] rfl (by decide +kernel)) (zg_of (fun _ h => List.mem_cons_of_mem _ (List.mem_append_right _ (List.mem_append_right _ (List.mem_append_right _ (List.mem_append_right _ (List.mem_append_left _ (h))))))) wgX9_isLetter)
set_option maxRecDepth 20000 in
theorem hX9_advance_X9_takeSign_v63 : GoodIn wzX9_advance (wsV RX9 63 RX9 yX9_takeSign wzX9_takeSign) := goodIn_app (goodIn_r _ [13, 14, 15, 8] rfl (by decide +kernel)) (zg_of (fun _ h => List.mem_cons_of_mem _ (List.mem_append_right _ (List.mem_append_right _ (List.mem_append_right _ (List.mem_append_right _ (List.mem_append_right _ (List.mem_append_left _ (h)))))))) wgX9_takeSign)
set_option maxRecDepth 20000 in
theorem hX9_advance_X9_takeRow_v60 : GoodIn wzX9_advance (wsV RX9 60 RX9 yX9_takeRow wzX9_takeRow) := goodIn_app (goodIn_r _ [16, 17, 18, 8] rfl (by decide +kernel)) (zg_of (fun _ h => List.mem_cons_of_mem _ (List.mem_append_right _ (List.mem_append_right _ (List.mem_append_right _ (List.mem_append_right _ (List.mem_append_right _ (List.mem_append_right _ (List.mem_append_left _ (h))))))))) wgX9_takeRow)
set_option maxRecDepth 20000 in
theorem hX9_advance_X9_takeNumber_v54 : GoodIn wzX9_advance (wsV RX9 54 RX9 yX9_takeNumber wzX9_takeNumber) := goodIn_app (goodIn_r _ [19, 20, 21, 8] rfl (by decide +kernel)) (zg_of (fun _ h => List.mem_cons_of_mem _ (List.mem_append_right _ (List.mem_append_right _ (List.mem_append_right _ (List.mem_append_right _ (List.mem_append_right _ (List.mem_append_right _ (List.mem_append_right _ (List.mem_append_left _ (h)))))))))) wgX9_takeNumber)
set_option maxRecDepth 20000 in
theorem hX9_start_X9_advance_v37 : GoodIn wzX9_start (wsV RX9 37 RX9 yX9_advance wzX9_advance) := goodIn_app (goodIn_r _ [3, 4, 5, 6] rfl (by decide +kernel)) (zg_of (fun _ h => List.mem_cons_of_mem _ (List.mem_append_right _ (List.mem_append_right _ (List.mem_append_left _ (h))))) wgX9_advance)
theorem hX10_addKind_X11_put_n28 : GoodIn wzX10_addKind wzX11_put := (zg_of (fun _ h => List.mem_cons_of_mem _ (List.mem_append_right _ (List.mem_append_right _ (List.mem_append_left _ (h))))) wgX11_put)
theorem hX10_isUnder_X11_at_n32 : GoodIn wzX10_isUnder wzX11_at := (zg_of (fun _ h => List.mem_cons_of_mem _ (List.mem_append_right _ (List.mem_append_right _ (List.mem_append_left _ (h))))) wgX11_at)
theorem hX10_tellResource_X11_put_n28 : GoodIn wzX10_tellResource wzX11_put := (zg_of (fun _ h => List.mem_cons_of_mem _ (List.mem_append_right _ (List.mem_append_right _ (List.mem_append_left _ (h))))) wgX11_put)
theorem hX4_cellOf_X11_at_n24 : GoodIn wzX4_cellOf wzX11_at := (zg_of (fun _ h => List.mem_cons_of_mem _ (List.mem_append_right _ (List.mem_append_right _ (List.mem_append_left _ (h))))) wgX11_at)
theorem hX4_frameOf_X11_at_n24 : GoodIn wzX4_frameOf wzX11_at := (zg_of (fun _ h => List.mem_cons_of_mem _ (List.mem_append_right _ (List.mem_append_right _ (List.mem_append_left _ (h))))) wgX11_at)
theorem hX4_isCaught_X11_at_n24 : GoodIn wzX4_isCaught wzX11_at := (zg_of (fun _ h => List.mem_cons_of_mem _ (List.mem_append_right _ (List.mem_append_right _ (List.mem_append_left _ (h))))) wgX11_at)
theorem hX0_add_X11_put_n53 : GoodIn wzX0_add wzX11_put := (zg_of (fun _ h => List.mem_cons_of_mem _ (List.mem_append_right _ (List.mem_append_right _ (List.mem_append_left _ (h))))) wgX11_put)
theorem hX0_newTarget_X11_put_n53 : GoodIn wzX0_newTarget wzX11_put := (zg_of (fun _ h => List.mem_cons_of_mem _ (List.mem_append_right _ (List.mem_append_right _ (List.mem_append_left _ (h))))) wgX11_put)
theorem hX0_aim_X11_put_n53 : GoodIn wzX0_aim wzX11_put := (zg_of (fun _ h => List.mem_cons_of_mem _ (List.mem_append_right _ (List.mem_append_right _ (List.mem_append_left _ (h))))) wgX11_put)
theorem hX0_addCase_X11_put_n53 : GoodIn wzX0_addCase wzX11_put := (zg_of (fun _ h => List.mem_cons_of_mem _ (List.mem_append_right _ (List.mem_append_right _ (List.mem_append_left _ (h))))) wgX11_put)
theorem hX0_hasCase_X11_at_n57 : GoodIn wzX0_hasCase wzX11_at := (zg_of (fun _ h => List.mem_cons_of_mem _ (List.mem_append_right _ (List.mem_append_right _ (List.mem_append_left _ (h))))) wgX11_at)
set_option maxRecDepth 20000 in
theorem hX0_addCases_X0_add_v61 : GoodIn wzX0_addCases (wsV RX0 61 RX0 yX0_add wzX0_add) := goodIn_app (goodIn_r _ [6, 7, 8, 9] rfl (by decide +kernel)) (zg_of (fun _ h => List.mem_cons_of_mem _ (List.mem_append_right _ (List.mem_append_right _ (List.mem_append_left _ (h))))) wgX0_add)
theorem hX0_addCases_X11_at_n57 : GoodIn wzX0_addCases wzX11_at := (zg_of (fun _ h => List.mem_cons_of_mem _ (List.mem_append_right _ (List.mem_append_right _ (List.mem_append_right _ (List.mem_append_left _ (h)))))) wgX11_at)
set_option maxRecDepth 20000 in
theorem hX11_addBytes_X11_put_s58 : GoodIn wzX11_addBytes (va_wsS RX11 58 yX11_put wzX11_put) := goodIn_app (goodIn_r _ [3, 4, 5] rfl (by decide +kernel)) (zg_of (fun _ h => List.mem_cons_of_mem _ (List.mem_append_right _ (List.mem_append_right _ (List.mem_append_left _ (h))))) wgX11_put)
set_option maxRecDepth 20000 in
theorem hX11_feed_X11_addBytes_v54 : GoodIn wzX11_feed (wsV RX11 54 RX11 yX11_addBytes wzX11_addBytes) := goodIn_app (goodIn_r _ [2, 3, 4, 5] rfl (by decide +kernel)) (zg_of (fun _ h => List.mem_cons_of_mem _ (List.mem_append_right _ (List.mem_append_right _ (List.mem_append_left _ (h))))) wgX11_addBytes)
set_option maxRecDepth 20000 in
theorem hX11_kind_X10_isKind_v62 : GoodIn wzX11_kind (wsV RX11 62 RX10 yX10_isKind wzX10_isKind) := goodIn_app (goodIn_r _ [2, 3, 4, 5] rfl (by decide +kernel)) (zg_of (fun _ h => List.mem_cons_of_mem _ (List.mem_append_right _ (List.mem_append_right _ (List.mem_append_left _ (h))))) wgX10_isKind)
set_option maxRecDepth 20000 in
theorem hX11_kind_X10_isFull_v66 : GoodIn wzX11_kind (wsV RX11 66 RX10 yX10_isFull wzX10_isFull) := goodIn_app (goodIn_r _ [6, 7, 8, 5] rfl (by decide +kernel)) (zg_of (fun _ h => List.mem_cons_of_mem _ (List.mem_append_right _ (List.mem_append_right _ (List.mem_append_right _ (List.mem_append_left _ (h)))))) wgX10_isFull)
set_option maxRecDepth 20000 in
theorem hX11_kind_X10_addKind_v70 : GoodIn wzX11_kind (wsV RX11 70 RX10 yX10_addKind wzX10_addKind) := goodIn_app (goodIn_r _ [9, 10, 11, 5] rfl (by decide +kernel)) (zg_of (fun _ h => List.mem_cons_of_mem _ (List.mem_append_right _ (List.mem_append_right _ (List.mem_append_right _ (List.mem_append_right _ (List.mem_append_left _ (h))))))) wgX10_addKind)
set_option maxRecDepth 20000 in
theorem hX11_isKindOrNothing_X10_isKind_v62 : GoodIn wzX11_isKindOrNothing (wsV RX11 62 RX10 yX10_isKind wzX10_isKind) := goodIn_app (goodIn_r _ [2, 3, 4, 5] rfl (by decide +kernel)) (zg_of (fun _ h => List.mem_cons_of_mem _ (List.mem_append_right _ (List.mem_append_right _ (List.mem_append_left _ (h))))) wgX10_isKind)
set_option maxRecDepth 20000 in
theorem hX11_resource_X11_isKindOrNothing_v74 : GoodIn wzX11_resource (wsV RX11 74 RX11 yX11_isKindOrNothing wzX11_isKindOrNothing) := goodIn_app (goodIn_r _ [2, 3, 4, 5] rfl (by decide +kernel)) (zg_of (fun _ h => List.mem_cons_of_mem _ (List.mem_append_right _ (List.mem_append_right _ (List.mem_append_left _ (h))))) wgX11_isKindOrNothing)
set_option maxRecDepth 20000 in
theorem hX11_resource_X10_tellResource_v77 : GoodIn wzX11_resource (wsV RX11 77 RX10 yX10_tellResource wzX10_tellResource) := goodIn_app (goodIn_r _ [6, 7, 8, 9] rfl (by decide +kernel)) (zg_of (fun _ h => List.mem_cons_of_mem _ (List.mem_append_right _ (List.mem_append_right _ (List.mem_append_right _ (List.mem_append_left _ (h)))))) wgX10_tellResource)
set_option maxRecDepth 20000 in
theorem hX11_under_X10_isKind_v62 : GoodIn wzX11_under (wsV RX11 62 RX10 yX10_isKind wzX10_isKind) := goodIn_app (goodIn_r _ [2, 3, 4, 5] rfl (by decide +kernel)) (zg_of (fun _ h => List.mem_cons_of_mem _ (List.mem_append_right _ (List.mem_append_right _ (List.mem_append_left _ (h))))) wgX10_isKind)
set_option maxRecDepth 20000 in
theorem hX11_under_X10_isUnder_v144 : GoodIn wzX11_under (wsV RX11 144 RX10 yX10_isUnder wzX10_isUnder) := goodIn_app (goodIn_r _ [6, 7, 8, 5] rfl (by decide +kernel)) (zg_of (fun _ h => List.mem_cons_of_mem _ (List.mem_append_right _ (List.mem_append_right _ (List.mem_append_right _ (List.mem_append_left _ (h)))))) wgX10_isUnder)
set_option maxRecDepth 20000 in
theorem hX5_hasOneBody_X5_isLoop_v15 : GoodIn wzX5_hasOneBody (wsV RX5 15 RX5 yX5_isLoop wzX5_isLoop) := goodIn_app (goodIn_r _ [2, 3, 4, 5] rfl (by decide +kernel)) (zg_of (fun _ h => List.mem_cons_of_mem _ (List.mem_append_right _ (List.mem_append_right _ (List.mem_append_left _ (h))))) wgX5_isLoop)
