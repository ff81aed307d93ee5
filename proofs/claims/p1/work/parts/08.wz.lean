theorem zg_nil : ∀ w ∈ ([] : List Cond), goodWord w = true := fun _ h => absurd h List.not_mem_nil
theorem zg_cons {c : Cond} {l : List Cond} (hc : goodWord c = true) (hl : ∀ w ∈ l, goodWord w = true) : ∀ w ∈ c :: l, goodWord w = true := fun w h => (List.mem_cons.mp h).elim (fun e => by rw [e]; exact hc) (hl w)
theorem zg_app {a b : List Cond} (ha : ∀ w ∈ a, goodWord w = true) (hb : ∀ w ∈ b, goodWord w = true) : ∀ w ∈ a ++ b, goodWord w = true := fun w h => (List.mem_append.mp h).elim (ha w) (hb w)
theorem zg_lit {l : List Cond} (h : l.all goodWord = true) : ∀ w ∈ l, goodWord w = true := List.all_eq_true.mp h
theorem zg_of {big ws : List Cond} (hm : ∀ w ∈ ws, w ∈ big) (hg : ∀ w ∈ ws, goodWord w = true) : GoodIn big ws := fun w h => ⟨hm w h, good_of_word (hg w h)⟩
theorem zt_nil : ∀ w ∈ ([] : List Cond), w ∈ lw_tbl := fun _ h => absurd h List.not_mem_nil
theorem zt_cons {c : Cond} {l : List Cond} (hc : c ∈ lw_tbl) (hl : ∀ w ∈ l, w ∈ lw_tbl) : ∀ w ∈ c :: l, w ∈ lw_tbl := fun w h => (List.mem_cons.mp h).elim (fun e => by rw [e]; exact hc) (hl w)
theorem zt_app {a b : List Cond} (ha : ∀ w ∈ a, w ∈ lw_tbl) (hb : ∀ w ∈ b, w ∈ lw_tbl) : ∀ w ∈ a ++ b, w ∈ lw_tbl := fun w h => (List.mem_append.mp h).elim (ha w) (hb w)
theorem wgcX11 : ∀ w ∈ wsX110, goodWord w = true := zg_lit (by decide +kernel)
theorem wgcX10 : ∀ w ∈ wsX100, goodWord w = true := zg_lit (by decide +kernel)
theorem wgcX0 : ∀ w ∈ wsX00, goodWord w = true := zg_lit (by decide +kernel)
theorem wgcX4 : ∀ w ∈ wsX40, goodWord w = true := zg_lit (by decide +kernel)
theorem wgcX6 : ∀ w ∈ wsX60, goodWord w = true := zg_lit (by decide +kernel)
theorem wgcX9 : ∀ w ∈ wsX90, goodWord w = true := zg_lit (by decide +kernel)
theorem wgcX5 : ∀ w ∈ wsX50, goodWord w = true := zg_lit (by decide +kernel)
theorem wgcX7 : ∀ w ∈ wsX70, goodWord w = true := zg_lit (by decide +kernel)
theorem wgcX12 : ∀ w ∈ wsX120, goodWord w = true := zg_lit (by decide +kernel)
theorem wgcX3 : ∀ w ∈ wsX30, goodWord w = true := zg_lit (by decide +kernel)
def woX11_put : List Cond := []
def wzX11_put : List Cond := .code yX11_put cX11_put 3 none :: (woX11_put ++ [])
theorem wgX11_put : ∀ w ∈ wzX11_put, goodWord w = true := zg_cons rfl (zg_app (zg_lit (by decide +kernel)) zg_nil)
def woX11_at : List Cond := []
def wzX11_at : List Cond := .code yX11_at cX11_at 2 (some .int) :: (woX11_at ++ [])
theorem wgX11_at : ∀ w ∈ wzX11_at, goodWord w = true := zg_cons rfl (zg_app (zg_lit (by decide +kernel)) zg_nil)
def woX11_cut : List Cond := [.fieldLink RX11 50 "StatementRules2" "length" "I"]
def wzX11_cut : List Cond := .code yX11_cut cX11_cut 3 (some .int) :: (woX11_cut ++ (wsX110 ++ []))
theorem wgX11_cut : ∀ w ∈ wzX11_cut, goodWord w = true := zg_cons rfl (zg_app (zg_lit (by decide +kernel)) (zg_app wgcX11 zg_nil))
def woX11_fault : List Cond := [.fieldLink RX11 91 "StatementRules2" "latestFault" "I"]
def wzX11_fault : List Cond := .code yX11_fault cX11_fault 1 (some .int) :: (woX11_fault ++ (wsX110 ++ []))
theorem wgX11_fault : ∀ w ∈ wzX11_fault, goodWord w = true := zg_cons rfl (zg_app (zg_lit (by decide +kernel)) (zg_app wgcX11 zg_nil))
def woX11_run : List Cond := [.fieldLink RX11 94 "StatementRules2" "hasProgram" "Z"]
def wzX11_run : List Cond := .code yX11_run cX11_run 3 (some .int) :: (woX11_run ++ (wsX110 ++ []))
theorem wgX11_run : ∀ w ∈ wzX11_run, goodWord w = true := zg_cons rfl (zg_app (zg_lit (by decide +kernel)) (zg_app wgcX11 zg_nil))
def woX11_program : List Cond := [.fieldLink RX11 94 "StatementRules2" "hasProgram" "Z"]
def wzX11_program : List Cond := .code yX11_program cX11_program 2 (some .int) :: (woX11_program ++ (wsX110 ++ []))
theorem wgX11_program : ∀ w ∈ wzX11_program, goodWord w = true := zg_cons rfl (zg_app (zg_lit (by decide +kernel)) (zg_app wgcX11 zg_nil))
def woX11_ran : List Cond := [.fieldLink RX11 85 "StatementRules2" "hasRun" "Z"]
def wzX11_ran : List Cond := .code yX11_ran cX11_ran 2 (some .int) :: (woX11_ran ++ (wsX110 ++ []))
theorem wgX11_ran : ∀ w ∈ wzX11_ran, goodWord w = true := zg_cons rfl (zg_app (zg_lit (by decide +kernel)) (zg_app wgcX11 zg_nil))
def woX11_trace : List Cond := [.fieldLink RX11 85 "StatementRules2" "hasRun" "Z"]
def wzX11_trace : List Cond := .code yX11_trace cX11_trace 3 (some .int) :: (woX11_trace ++ (wsX110 ++ []))
theorem wgX11_trace : ∀ w ∈ wzX11_trace, goodWord w = true := zg_cons rfl (zg_app (zg_lit (by decide +kernel)) (zg_app wgcX11 zg_nil))
def woX11_suppressed : List Cond := [.fieldLink RX11 85 "StatementRules2" "hasRun" "Z"]
def wzX11_suppressed : List Cond := .code yX11_suppressed cX11_suppressed 4 (some .int) :: (woX11_suppressed ++ (wsX110 ++ []))
theorem wgX11_suppressed : ∀ w ∈ wzX11_suppressed, goodWord w = true := zg_cons rfl (zg_app (zg_lit (by decide +kernel)) (zg_app wgcX11 zg_nil))
def woX11_asserts : List Cond := [.fieldLink RX11 16 "StatementRules2" "told" "LStatementRules2$Told;"]
def wzX11_asserts : List Cond := .code yX11_asserts cX11_asserts 3 (some .int) :: (woX11_asserts ++ (wsX110 ++ (wsX100 ++ [])))
theorem wgX11_asserts : ∀ w ∈ wzX11_asserts, goodWord w = true := zg_cons rfl (zg_app (zg_lit (by decide +kernel)) (zg_app wgcX11 (zg_app wgcX10 zg_nil)))
def woX10_isKind : List Cond := [.fieldLink RX10 24 "StatementRules2$Told" "kindCount" "I"]
def wzX10_isKind : List Cond := .code yX10_isKind cX10_isKind 2 (some .boolean) :: (woX10_isKind ++ (wsX100 ++ []))
theorem wgX10_isKind : ∀ w ∈ wzX10_isKind, goodWord w = true := zg_cons rfl (zg_app (zg_lit (by decide +kernel)) (zg_app wgcX10 zg_nil))
def woX10_isFull : List Cond := [.fieldLink RX10 24 "StatementRules2$Told" "kindCount" "I"]
def wzX10_isFull : List Cond := .code yX10_isFull cX10_isFull 1 (some .boolean) :: (woX10_isFull ++ (wsX100 ++ []))
theorem wgX10_isFull : ∀ w ∈ wzX10_isFull, goodWord w = true := zg_cons rfl (zg_app (zg_lit (by decide +kernel)) (zg_app wgcX10 zg_nil))
def woX10_addKind : List Cond := [.fieldLink RX10 9 "StatementRules2$Told" "above" "[I", .fieldLink RX10 24 "StatementRules2$Told" "kindCount" "I", .initialized RX11, .static yX11_put]
def wzX10_addKind : List Cond := .code yX10_addKind cX10_addKind 2 (some .int) :: (woX10_addKind ++ (wsX100 ++ (wzX11_put ++ [])))
theorem wgX10_addKind : ∀ w ∈ wzX10_addKind, goodWord w = true := zg_cons rfl (zg_app (zg_lit (by decide +kernel)) (zg_app wgcX10 (zg_app wgX11_put zg_nil)))
def woX11_kind : List Cond := [.fieldLink RX11 16 "StatementRules2" "told" "LStatementRules2$Told;", .methodLink RX11 62 yX10_isKind, .instanceMethod yX10_isKind, .selects RX10 yX10_isKind yX10_isKind, .initialized RX10, .methodLink RX11 66 yX10_isFull, .instanceMethod yX10_isFull, .selects RX10 yX10_isFull yX10_isFull, .methodLink RX11 70 yX10_addKind, .instanceMethod yX10_addKind, .selects RX10 yX10_addKind yX10_addKind]
def wzX11_kind : List Cond := .code yX11_kind cX11_kind 2 (some .int) :: (woX11_kind ++ (wsX110 ++ (wzX10_isKind ++ (wzX10_isFull ++ (wzX10_addKind ++ [])))))
theorem wgX11_kind : ∀ w ∈ wzX11_kind, goodWord w = true := zg_cons rfl (zg_app (zg_lit (by decide +kernel)) (zg_app wgcX11 (zg_app wgX10_isKind (zg_app wgX10_isFull (zg_app wgX10_addKind zg_nil)))))
def woX11_isKindOrNothing : List Cond := [.fieldLink RX11 16 "StatementRules2" "told" "LStatementRules2$Told;", .methodLink RX11 62 yX10_isKind, .instanceMethod yX10_isKind, .selects RX10 yX10_isKind yX10_isKind, .initialized RX10]
def wzX11_isKindOrNothing : List Cond := .code yX11_isKindOrNothing cX11_isKindOrNothing 2 (some .boolean) :: (woX11_isKindOrNothing ++ (wsX110 ++ (wzX10_isKind ++ [])))
theorem wgX11_isKindOrNothing : ∀ w ∈ wzX11_isKindOrNothing, goodWord w = true := zg_cons rfl (zg_app (zg_lit (by decide +kernel)) (zg_app wgcX11 (zg_app wgX10_isKind zg_nil)))
def woX10_tellResource : List Cond := [.fieldLink RX10 15 "StatementRules2$Told" "isNull" "[I", .initialized RX11, .static yX11_put, .fieldLink RX10 18 "StatementRules2$Told" "opening" "[I", .fieldLink RX10 21 "StatementRules2$Told" "closing" "[I"]
def wzX10_tellResource : List Cond := .code yX10_tellResource cX10_tellResource 5 none :: (woX10_tellResource ++ (wsX100 ++ (wzX11_put ++ [])))
theorem wgX10_tellResource : ∀ w ∈ wzX10_tellResource, goodWord w = true := zg_cons rfl (zg_app (zg_lit (by decide +kernel)) (zg_app wgcX10 (zg_app wgX11_put zg_nil)))
def woX11_resource : List Cond := [.fieldLink RX11 16 "StatementRules2" "told" "LStatementRules2$Told;", .methodLink RX11 74 yX11_isKindOrNothing, .instanceMethod yX11_isKindOrNothing, .selects RX11 yX11_isKindOrNothing yX11_isKindOrNothing, .initialized RX11, .methodLink RX11 77 yX10_tellResource, .instanceMethod yX10_tellResource, .selects RX10 yX10_tellResource yX10_tellResource, .initialized RX10]
def wzX11_resource : List Cond := .code yX11_resource cX11_resource 5 (some .int) :: (woX11_resource ++ (wsX110 ++ (wzX11_isKindOrNothing ++ (wzX10_tellResource ++ []))))
theorem wgX11_resource : ∀ w ∈ wzX11_resource, goodWord w = true := zg_cons rfl (zg_app (zg_lit (by decide +kernel)) (zg_app wgcX11 (zg_app wgX11_isKindOrNothing (zg_app wgX10_tellResource zg_nil))))
def woX10_isUnder : List Cond := [.fieldLink RX10 9 "StatementRules2$Told" "above" "[I", .initialized RX11, .static yX11_at]
def wzX10_isUnder : List Cond := .code yX10_isUnder cX10_isUnder 5 (some .boolean) :: (woX10_isUnder ++ (wsX100 ++ (wzX11_at ++ [])))
theorem wgX10_isUnder : ∀ w ∈ wzX10_isUnder, goodWord w = true := zg_cons rfl (zg_app (zg_lit (by decide +kernel)) (zg_app wgcX10 (zg_app wgX11_at zg_nil)))
def woX11_under : List Cond := [.fieldLink RX11 16 "StatementRules2" "told" "LStatementRules2$Told;", .methodLink RX11 62 yX10_isKind, .instanceMethod yX10_isKind, .selects RX10 yX10_isKind yX10_isKind, .initialized RX10, .methodLink RX11 144 yX10_isUnder, .instanceMethod yX10_isUnder, .selects RX10 yX10_isUnder yX10_isUnder]
def wzX11_under : List Cond := .code yX11_under cX11_under 3 (some .int) :: (woX11_under ++ (wsX110 ++ (wzX10_isKind ++ (wzX10_isUnder ++ []))))
theorem wgX11_under : ∀ w ∈ wzX11_under, goodWord w = true := zg_cons rfl (zg_app (zg_lit (by decide +kernel)) (zg_app wgcX11 (zg_app wgX10_isKind (zg_app wgX10_isUnder zg_nil))))
def woX11_addBytes : List Cond := [.fieldLink RX11 9 "StatementRules2" "tape" "[I", .fieldLink RX11 50 "StatementRules2" "length" "I", .methodLink RX11 58 yX11_put, .static yX11_put, .initialized RX11]
def wzX11_addBytes : List Cond := .code yX11_addBytes cX11_addBytes 3 none :: (woX11_addBytes ++ (wsX110 ++ (wzX11_put ++ [])))
theorem wgX11_addBytes : ∀ w ∈ wzX11_addBytes, goodWord w = true := zg_cons rfl (zg_app (zg_lit (by decide +kernel)) (zg_app wgcX11 (zg_app wgX11_put zg_nil)))
def woX11_feed : List Cond := [.fieldLink RX11 50 "StatementRules2" "length" "I", .methodLink RX11 54 yX11_addBytes, .instanceMethod yX11_addBytes, .selects RX11 yX11_addBytes yX11_addBytes, .initialized RX11]
def wzX11_feed : List Cond := .code yX11_feed cX11_feed 6 (some .int) :: (woX11_feed ++ (wsX110 ++ (wzX11_addBytes ++ [])))
theorem wgX11_feed : ∀ w ∈ wzX11_feed, goodWord w = true := zg_cons rfl (zg_app (zg_lit (by decide +kernel)) (zg_app wgcX11 (zg_app wgX11_addBytes zg_nil)))
def woX0_clear : List Cond := [.fieldLink RX0 27 "StatementRules2$Code" "size" "I", .fieldLink RX0 31 "StatementRules2$Code" "targetCount" "I", .fieldLink RX0 34 "StatementRules2$Code" "caseCount" "I", .fieldLink RX0 37 "StatementRules2$Code" "cellCount" "I", .fieldLink RX0 40 "StatementRules2$Code" "statements" "I", .fieldLink RX0 43 "StatementRules2$Code" "toldNames" "I", .fieldLink RX0 46 "StatementRules2$Code" "jumps" "I", .fieldLink RX0 49 "StatementRules2$Code" "endReached" "Z"]
def wzX0_clear : List Cond := .code yX0_clear cX0_clear 1 none :: (woX0_clear ++ (wsX00 ++ []))
theorem wgX0_clear : ∀ w ∈ wzX0_clear, goodWord w = true := zg_cons rfl (zg_app (zg_lit (by decide +kernel)) (zg_app wgcX0 zg_nil))
def woX0_newCells : List Cond := [.fieldLink RX0 37 "StatementRules2$Code" "cellCount" "I"]
def wzX0_newCells : List Cond := .code yX0_newCells cX0_newCells 2 (some .int) :: (woX0_newCells ++ (wsX00 ++ []))
theorem wgX0_newCells : ∀ w ∈ wzX0_newCells, goodWord w = true := zg_cons rfl (zg_app (zg_lit (by decide +kernel)) (zg_app wgcX0 zg_nil))
def woX0_add : List Cond := [.fieldLink RX0 9 "StatementRules2$Code" "ops" "[I", .fieldLink RX0 27 "StatementRules2$Code" "size" "I", .initialized RX11, .static yX11_put, .fieldLink RX0 15 "StatementRules2$Code" "arguments" "[I"]
def wzX0_add : List Cond := .code yX0_add cX0_add 3 none :: (woX0_add ++ (wsX00 ++ (wzX11_put ++ [])))
theorem wgX0_add : ∀ w ∈ wzX0_add, goodWord w = true := zg_cons rfl (zg_app (zg_lit (by decide +kernel)) (zg_app wgcX0 (zg_app wgX11_put zg_nil)))
def woX4_add : List Cond := [.fieldLink RX4 20 "StatementRules2$Names" "count" "I", .fieldLink RX4 7 "StatementRules2$Names" "names" "[J", .fieldLink RX4 13 "StatementRules2$Names" "cells" "[I", .fieldLink RX4 17 "StatementRules2$Names" "frames" "[I"]
def wzX4_add : List Cond := .code yX4_add cX4_add 5 none :: (woX4_add ++ (wsX40 ++ []))
theorem wgX4_add : ∀ w ∈ wzX4_add, goodWord w = true := zg_cons rfl (zg_app (zg_lit (by decide +kernel)) (zg_app wgcX4 zg_nil))
def woX6_clear : List Cond := [.fieldLink RX6 21 "StatementRules2$Opens" "count" "I", .fieldLink RX6 25 "StatementRules2$Opens" "serials" "I", .fieldLink RX6 28 "StatementRules2$Opens" "jumpCount" "I", .fieldLink RX6 31 "StatementRules2$Opens" "arm" "I"]
def wzX6_clear : List Cond := .code yX6_clear cX6_clear 1 none :: (woX6_clear ++ (wsX60 ++ []))
theorem wgX6_clear : ∀ w ∈ wzX6_clear, goodWord w = true := zg_cons rfl (zg_app (zg_lit (by decide +kernel)) (zg_app wgcX6 zg_nil))
def woX9_byteAt : List Cond := [.fieldLink RX9 31 "StatementRules2$Tokens" "length" "I"]
def wzX9_byteAt : List Cond := .code yX9_byteAt cX9_byteAt 2 (some .int) :: (woX9_byteAt ++ (wsX90 ++ []))
theorem wgX9_byteAt : ∀ w ∈ wzX9_byteAt, goodWord w = true := zg_cons rfl (zg_app (zg_lit (by decide +kernel)) (zg_app wgcX9 zg_nil))
def woX9_advance : List Cond := [.fieldLink RX9 34 "StatementRules2$Tokens" "next" "I", .fieldLink RX9 47 "StatementRules2$Tokens" "place" "I", .fieldLink RX9 31 "StatementRules2$Tokens" "length" "I", .fieldLink RX9 40 "StatementRules2$Tokens" "type" "I", .methodLink RX9 43 yX9_byteAt, .instanceMethod yX9_byteAt, .selects RX9 yX9_byteAt yX9_byteAt, .initialized RX9]
def wzX9_advance : List Cond := .code yX9_advance cX9_advance 2 none :: (woX9_advance ++ (wsX90 ++ (wzX9_byteAt ++ [])))
theorem wgX9_advance : ∀ w ∈ wzX9_advance, goodWord w = true := zg_cons rfl (zg_app (zg_lit (by decide +kernel)) (zg_app wgcX9 (zg_app wgX9_byteAt zg_nil)))
def woX9_start : List Cond := [.fieldLink RX9 31 "StatementRules2$Tokens" "length" "I", .fieldLink RX9 34 "StatementRules2$Tokens" "next" "I", .methodLink RX9 37 yX9_advance, .instanceMethod yX9_advance, .selects RX9 yX9_advance yX9_advance, .initialized RX9]
def wzX9_start : List Cond := .code yX9_start cX9_start 2 none :: (woX9_start ++ (wsX90 ++ (wzX9_advance ++ [])))
theorem wgX9_start : ∀ w ∈ wzX9_start, goodWord w = true := zg_cons rfl (zg_app (zg_lit (by decide +kernel)) (zg_app wgcX9 (zg_app wgX9_advance zg_nil)))
def woX5_init : List Cond := [.methodLink RX5 3 objectInit, .instanceMethod objectInit, .code objectInit ⟨#[0xb1]⟩ 1 none]
def wzX5_init : List Cond := .code yX5_init cX5_init 1 none :: (woX5_init ++ [])
theorem wgX5_init : ∀ w ∈ wzX5_init, goodWord w = true := zg_cons rfl (zg_app (zg_lit (by decide +kernel)) zg_nil)
def woX6_push : List Cond := [.fieldLink RX6 21 "StatementRules2$Opens" "count" "I", .fieldLink RX6 11 "StatementRules2$Opens" "rows" "[LStatementRules2$Open;", .methodLink RX6 34 yJ9_min_7cf53, .static yJ9_min_7cf53, .initialized RJ9, .code yJ9_min_7cf53 cJ9_min_7cf53 2 (some .int), .classLink RX6 9 RX5, .instantiable RX5 17, .initialized RX5, .instanceMethod yX5_init, .fieldLink RX6 25 "StatementRules2$Opens" "serials" "I", .fieldLink RX6 28 "StatementRules2$Opens" "jumpCount" "I"]
def wzX6_push : List Cond := .code yX6_push cX6_push 6 (some (.object "StatementRules2$Open")) :: (woX6_push ++ (wsX60 ++ (wsX50 ++ (wzX5_init ++ []))))
theorem wgX6_push : ∀ w ∈ wzX6_push, goodWord w = true := zg_cons rfl (zg_app (zg_lit (by decide +kernel)) (zg_app wgcX6 (zg_app wgcX5 (zg_app wgX5_init zg_nil))))
def woX6_row : List Cond := [.fieldLink RX6 21 "StatementRules2$Opens" "count" "I", .fieldLink RX6 11 "StatementRules2$Opens" "rows" "[LStatementRules2$Open;"]
def wzX6_row : List Cond := .code yX6_row cX6_row 2 (some (.object "StatementRules2$Open")) :: (woX6_row ++ (wsX60 ++ []))
theorem wgX6_row : ∀ w ∈ wzX6_row, goodWord w = true := zg_cons rfl (zg_app (zg_lit (by decide +kernel)) (zg_app wgcX6 zg_nil))
def woX6_pop : List Cond := [.fieldLink RX6 21 "StatementRules2$Opens" "count" "I", .methodLink RX6 85 yJ9_max_7cf53, .static yJ9_max_7cf53, .initialized RJ9, .code yJ9_max_7cf53 cJ9_max_7cf53 2 (some .int)]
def wzX6_pop : List Cond := .code yX6_pop cX6_pop 1 none :: (woX6_pop ++ (wsX60 ++ []))
theorem wgX6_pop : ∀ w ∈ wzX6_pop, goodWord w = true := zg_cons rfl (zg_app (zg_lit (by decide +kernel)) (zg_app wgcX6 zg_nil))
def woX5_isLoop : List Cond := [.fieldLink RX5 9 "StatementRules2$Open" "sort" "I"]
def wzX5_isLoop : List Cond := .code yX5_isLoop cX5_isLoop 1 (some .boolean) :: (woX5_isLoop ++ (wsX50 ++ []))
theorem wgX5_isLoop : ∀ w ∈ wzX5_isLoop, goodWord w = true := zg_cons rfl (zg_app (zg_lit (by decide +kernel)) (zg_app wgcX5 zg_nil))
def woX5_hasOneBody : List Cond := [.fieldLink RX5 9 "StatementRules2$Open" "sort" "I", .methodLink RX5 15 yX5_isLoop, .instanceMethod yX5_isLoop, .selects RX5 yX5_isLoop yX5_isLoop, .initialized RX5]
def wzX5_hasOneBody : List Cond := .code yX5_hasOneBody cX5_hasOneBody 1 (some .boolean) :: (woX5_hasOneBody ++ (wsX50 ++ (wzX5_isLoop ++ [])))
theorem wgX5_hasOneBody : ∀ w ∈ wzX5_hasOneBody, goodWord w = true := zg_cons rfl (zg_app (zg_lit (by decide +kernel)) (zg_app wgcX5 (zg_app wgX5_isLoop zg_nil)))
def woX1_found : List Cond := [.fieldLink RX1 18 "StatementRules2$Formulas" "tokens" "LStatementRules2$Tokens;"]
def wzX1_found : List Cond := .code yX1_found cX1_found 2 (some .boolean) :: (woX1_found ++ (wsX70 ++ (wsX90 ++ [])))
theorem wgX1_found : ∀ w ∈ wzX1_found, goodWord w = true := zg_cons rfl (zg_app (zg_lit (by decide +kernel)) (zg_app wgcX7 (zg_app wgcX9 zg_nil)))
def woX1_expect : List Cond := [.fieldLink RX1 18 "StatementRules2$Formulas" "tokens" "LStatementRules2$Tokens;", .methodLink RX1 42 ⟨"StatementRules2$Formulas", "found", "(I)Z"⟩, .sameMethod "StatementRules2$Formulas" "StatementRules2$Formulas" "found" "(I)Z", .selects RX7 ⟨"StatementRules2$Formulas", "found", "(I)Z"⟩ yX1_found, .instanceMethod yX1_found, .initialized RX1, .methodLink RX1 56 yX9_advance, .instanceMethod yX9_advance, .selects RX9 yX9_advance yX9_advance, .initialized RX9]
def wzX1_expect : List Cond := .code yX1_expect cX1_expect 2 none :: (woX1_expect ++ (wsX70 ++ (wzX1_found ++ (wzX9_advance ++ []))))
theorem wgX1_expect : ∀ w ∈ wzX1_expect, goodWord w = true := zg_cons rfl (zg_app (zg_lit (by decide +kernel)) (zg_app wgcX7 (zg_app wgX1_found (zg_app wgX9_advance zg_nil))))
def woX7_endList : List Cond := [.fieldLink RX7 20 "StatementRules2$Statements" "code" "LStatementRules2$Code;", .sameField "StatementRules2$Statements" "StatementRules2$Formulas" "code" "LStatementRules2$Code;", .fieldLink RX7 61 "StatementRules2$Statements" "alive" "Z", .fieldLink RX7 14 "StatementRules2$Statements" "opens" "LStatementRules2$Opens;", .methodLink RX7 155 ⟨"StatementRules2$Statements", "expect", "(I)V"⟩, .sameMethod "StatementRules2$Statements" "StatementRules2$Formulas" "expect" "(I)V", .selects RX7 ⟨"StatementRules2$Statements", "expect", "(I)V"⟩ yX1_expect, .instanceMethod yX1_expect, .initialized RX1, .methodLink RX7 176 yX0_add, .instanceMethod yX0_add, .selects RX0 yX0_add yX0_add, .initialized RX0, .methodLink RX7 369 yX6_pop, .instanceMethod yX6_pop, .selects RX6 yX6_pop yX6_pop, .initialized RX6]
def wzX7_endList : List Cond := .code yX7_endList cX7_endList 2 none :: (woX7_endList ++ (wsX50 ++ (wsX70 ++ (wsX00 ++ (wzX1_expect ++ (wzX0_add ++ (wzX6_pop ++ [])))))))
theorem wgX7_endList : ∀ w ∈ wzX7_endList, goodWord w = true := zg_cons rfl (zg_app (zg_lit (by decide +kernel)) (zg_app wgcX5 (zg_app wgcX7 (zg_app wgcX0 (zg_app wgX1_expect (zg_app wgX0_add (zg_app wgX6_pop zg_nil)))))))
def woX7_turns : List Cond := [.fieldLink RX7 52 "StatementRules2$Statements" "faultNumber" "I", .sameField "StatementRules2$Statements" "StatementRules2$Formulas" "faultNumber" "I", .fieldLink RX7 14 "StatementRules2$Statements" "opens" "LStatementRules2$Opens;", .methodLink RX7 93 yX6_row, .instanceMethod yX6_row, .selects RX6 yX6_row yX6_row, .initialized RX6, .methodLink RX7 97 yX5_hasOneBody, .instanceMethod yX5_hasOneBody, .selects RX5 yX5_hasOneBody yX5_hasOneBody, .initialized RX5, .methodLink RX7 110 ⟨"StatementRules2$Statements", "found", "(I)Z"⟩, .sameMethod "StatementRules2$Statements" "StatementRules2$Formulas" "found" "(I)Z", .selects RX7 ⟨"StatementRules2$Statements", "found", "(I)Z"⟩ yX1_found, .instanceMethod yX1_found, .initialized RX1, .methodLink RX7 120 yX7_endList, .instanceMethod yX7_endList, .selects RX7 yX7_endList yX7_endList, .initialized RX7]
def wzX7_turns : List Cond := .code yX7_turns cX7_turns 4 none :: (woX7_turns ++ (wsX70 ++ (wsX60 ++ (wsX50 ++ (wzX6_row ++ (wzX5_hasOneBody ++ (wzX1_found ++ (wzX7_endList ++ []))))))))
theorem wgX7_turns : ∀ w ∈ wzX7_turns, goodWord w = true := zg_cons rfl (zg_app (zg_lit (by decide +kernel)) (zg_app wgcX7 (zg_app wgcX6 (zg_app wgcX5 (zg_app wgX6_row (zg_app wgX5_hasOneBody (zg_app wgX1_found (zg_app wgX7_endList zg_nil))))))))
def woX7_translate : List Cond := [.fieldLink RX7 20 "StatementRules2$Statements" "code" "LStatementRules2$Code;", .sameField "StatementRules2$Statements" "StatementRules2$Formulas" "code" "LStatementRules2$Code;", .fieldLink RX7 29 "StatementRules2$Statements" "names" "LStatementRules2$Names;", .sameField "StatementRules2$Statements" "StatementRules2$Formulas" "names" "LStatementRules2$Names;", .constantLong RX7 39 (97), .constantLong RX7 49 (98), .fieldLink RX7 14 "StatementRules2$Statements" "opens" "LStatementRules2$Opens;", .fieldLink RX7 52 "StatementRules2$Statements" "faultNumber" "I", .sameField "StatementRules2$Statements" "StatementRules2$Formulas" "faultNumber" "I", .fieldLink RX7 55 "StatementRules2$Statements" "faultPlace" "I", .sameField "StatementRules2$Statements" "StatementRules2$Formulas" "faultPlace" "I", .fieldLink RX7 58 "StatementRules2$Statements" "openSigns" "I", .sameField "StatementRules2$Statements" "StatementRules2$Formulas" "openSigns" "I", .fieldLink RX7 61 "StatementRules2$Statements" "alive" "Z", .fieldLink RX7 65 "StatementRules2$Statements" "unreached" "I", .fieldLink RX7 68 "StatementRules2$Statements" "depth" "I", .fieldLink RX7 71 "StatementRules2$Statements" "tokens" "LStatementRules2$Tokens;", .sameField "StatementRules2$Statements" "StatementRules2$Formulas" "tokens" "LStatementRules2$Tokens;", .methodLink RX7 24 yX0_clear, .instanceMethod yX0_clear, .selects RX0 yX0_clear yX0_clear, .initialized RX0, .methodLink RX7 41 yX0_newCells, .instanceMethod yX0_newCells, .selects RX0 yX0_newCells yX0_newCells, .methodLink RX7 45 yX4_add, .instanceMethod yX4_add, .selects RX4 yX4_add yX4_add, .initialized RX4, .methodLink RX7 51 yX6_clear, .instanceMethod yX6_clear, .selects RX6 yX6_clear yX6_clear, .initialized RX6, .methodLink RX7 75 yX9_start, .instanceMethod yX9_start, .selects RX9 yX9_start yX9_start, .initialized RX9, .methodLink RX7 81 yX6_push, .instanceMethod yX6_push, .selects RX6 yX6_push yX6_push, .methodLink RX7 85 yX7_turns, .instanceMethod yX7_turns, .selects RX7 yX7_turns yX7_turns, .initialized RX7]
def wzX7_translate : List Cond := .code yX7_translate cX7_translate 2 (some .int) :: (woX7_translate ++ (wsX70 ++ (wsX40 ++ (wzX0_clear ++ (wzX0_newCells ++ (wzX4_add ++ (wzX6_clear ++ (wzX9_start ++ (wzX6_push ++ (wzX7_turns ++ []))))))))))
theorem wgX7_translate : ∀ w ∈ wzX7_translate, goodWord w = true := zg_cons rfl (zg_app (zg_lit (by decide +kernel)) (zg_app wgcX7 (zg_app wgcX4 (zg_app wgX0_clear (zg_app wgX0_newCells (zg_app wgX4_add (zg_app wgX6_clear (zg_app wgX9_start (zg_app wgX6_push (zg_app wgX7_turns zg_nil))))))))))
def woX11_read : List Cond := [.fieldLink RX11 50 "StatementRules2" "length" "I", .fieldLink RX11 85 "StatementRules2" "hasRun" "Z", .fieldLink RX11 37 "StatementRules2" "reader" "LStatementRules2$Statements;", .fieldLink RX11 91 "StatementRules2" "latestFault" "I", .fieldLink RX11 94 "StatementRules2" "hasProgram" "Z", .fieldLink RX11 23 "StatementRules2" "code" "LStatementRules2$Code;", .methodLink RX11 88 yX7_translate, .instanceMethod yX7_translate, .selects RX7 yX7_translate yX7_translate, .initialized RX7]
def wzX11_read : List Cond := .code yX11_read cX11_read 2 (some .int) :: (woX11_read ++ (wsX110 ++ (wsX00 ++ (wzX7_translate ++ []))))
theorem wgX11_read : ∀ w ∈ wzX11_read, goodWord w = true := zg_cons rfl (zg_app (zg_lit (by decide +kernel)) (zg_app wgcX11 (zg_app wgcX0 (zg_app wgX7_translate zg_nil))))
def woX12_in : List Cond := []
def wzX12_in : List Cond := .code yX12_in cX12_in 3 (some .boolean) :: (woX12_in ++ [])
theorem wgX12_in : ∀ w ∈ wzX12_in, goodWord w = true := zg_cons rfl (zg_app (zg_lit (by decide +kernel)) zg_nil)
def woX12_thrown : List Cond := [.fieldLink RX12 273 "StatementRules2Model" "thrown" "I"]
def wzX12_thrown : List Cond := .code yX12_thrown cX12_thrown 1 (some .int) :: (woX12_thrown ++ (wsX120 ++ []))
theorem wgX12_thrown : ∀ w ∈ wzX12_thrown, goodWord w = true := zg_cons rfl (zg_app (zg_lit (by decide +kernel)) (zg_app wgcX12 zg_nil))
def woX12_cut : List Cond := [.fieldLink RX12 273 "StatementRules2Model" "thrown" "I", .fieldLink RX12 276 "StatementRules2Model" "taped" "I", .methodLink RX12 279 yX12_in, .static yX12_in, .initialized RX12]
def wzX12_cut : List Cond := .code yX12_cut cX12_cut 3 (some .int) :: (woX12_cut ++ (wsX120 ++ (wzX12_in ++ [])))
theorem wgX12_cut : ∀ w ∈ wzX12_cut, goodWord w = true := zg_cons rfl (zg_app (zg_lit (by decide +kernel)) (zg_app wgcX12 (zg_app wgX12_in zg_nil)))
def woX12_fault : List Cond := [.fieldLink RX12 273 "StatementRules2Model" "thrown" "I", .fieldLink RX12 574 "StatementRules2Model" "lastFault" "I"]
def wzX12_fault : List Cond := .code yX12_fault cX12_fault 1 (some .int) :: (woX12_fault ++ (wsX120 ++ []))
theorem wgX12_fault : ∀ w ∈ wzX12_fault, goodWord w = true := zg_cons rfl (zg_app (zg_lit (by decide +kernel)) (zg_app wgcX12 zg_nil))
def woX12_asserts : List Cond := [.fieldLink RX12 273 "StatementRules2Model" "thrown" "I", .fieldLink RX12 287 "StatementRules2Model" "asserting" "Z"]
def wzX12_asserts : List Cond := .code yX12_asserts cX12_asserts 3 (some .int) :: (woX12_asserts ++ (wsX120 ++ []))
theorem wgX12_asserts : ∀ w ∈ wzX12_asserts, goodWord w = true := zg_cons rfl (zg_app (zg_lit (by decide +kernel)) (zg_app wgcX12 zg_nil))
def woX12_run : List Cond := [.fieldLink RX12 273 "StatementRules2Model" "thrown" "I", .fieldLink RX12 577 "StatementRules2Model" "hasProgram" "Z"]
def wzX12_run : List Cond := .code yX12_run cX12_run 4 (some .int) :: (woX12_run ++ (wsX120 ++ []))
theorem wgX12_run : ∀ w ∈ wzX12_run, goodWord w = true := zg_cons rfl (zg_app (zg_lit (by decide +kernel)) (zg_app wgcX12 zg_nil))
def woX12_trace : List Cond := [.fieldLink RX12 273 "StatementRules2Model" "thrown" "I", .fieldLink RX12 580 "StatementRules2Model" "hasRun" "Z"]
def wzX12_trace : List Cond := .code yX12_trace cX12_trace 3 (some .int) :: (woX12_trace ++ (wsX120 ++ []))
theorem wgX12_trace : ∀ w ∈ wzX12_trace, goodWord w = true := zg_cons rfl (zg_app (zg_lit (by decide +kernel)) (zg_app wgcX12 zg_nil))
def woX12_suppressed : List Cond := [.fieldLink RX12 273 "StatementRules2Model" "thrown" "I", .fieldLink RX12 580 "StatementRules2Model" "hasRun" "Z"]
def wzX12_suppressed : List Cond := .code yX12_suppressed cX12_suppressed 3 (some .int) :: (woX12_suppressed ++ (wsX120 ++ []))
theorem wgX12_suppressed : ∀ w ∈ wzX12_suppressed, goodWord w = true := zg_cons rfl (zg_app (zg_lit (by decide +kernel)) (zg_app wgcX12 zg_nil))
def woX12_program : List Cond := [.fieldLink RX12 273 "StatementRules2Model" "thrown" "I", .fieldLink RX12 577 "StatementRules2Model" "hasProgram" "Z", .methodLink RX12 279 yX12_in, .static yX12_in, .initialized RX12]
def wzX12_program : List Cond := .code yX12_program cX12_program 2 (some .int) :: (woX12_program ++ (wsX120 ++ (wzX12_in ++ [])))
theorem wgX12_program : ∀ w ∈ wzX12_program, goodWord w = true := zg_cons rfl (zg_app (zg_lit (by decide +kernel)) (zg_app wgcX12 (zg_app wgX12_in zg_nil)))
def woX12_ran : List Cond := [.fieldLink RX12 273 "StatementRules2Model" "thrown" "I", .fieldLink RX12 580 "StatementRules2Model" "hasRun" "Z", .methodLink RX12 279 yX12_in, .static yX12_in, .initialized RX12]
def wzX12_ran : List Cond := .code yX12_ran cX12_ran 5 (some .int) :: (woX12_ran ++ (wsX120 ++ (wzX12_in ++ [])))
theorem wgX12_ran : ∀ w ∈ wzX12_ran, goodWord w = true := zg_cons rfl (zg_app (zg_lit (by decide +kernel)) (zg_app wgcX12 (zg_app wgX12_in zg_nil)))
def woX12_kind : List Cond := [.fieldLink RX12 273 "StatementRules2Model" "thrown" "I", .fieldLink RX12 13 "StatementRules2Model" "kinds" "I", .fieldLink RX12 17 "StatementRules2Model" "above" "[I", .methodLink RX12 279 yX12_in, .static yX12_in, .initialized RX12]
def wzX12_kind : List Cond := .code yX12_kind cX12_kind 2 (some .int) :: (woX12_kind ++ (wsX120 ++ (wzX12_in ++ [])))
theorem wgX12_kind : ∀ w ∈ wzX12_kind, goodWord w = true := zg_cons rfl (zg_app (zg_lit (by decide +kernel)) (zg_app wgcX12 (zg_app wgX12_in zg_nil)))
def woX12_isUnder : List Cond := [.fieldLink RX12 17 "StatementRules2Model" "above" "[I"]
def wzX12_isUnder : List Cond := .code yX12_isUnder cX12_isUnder 4 (some .boolean) :: (woX12_isUnder ++ (wsX120 ++ []))
theorem wgX12_isUnder : ∀ w ∈ wzX12_isUnder, goodWord w = true := zg_cons rfl (zg_app (zg_lit (by decide +kernel)) (zg_app wgcX12 zg_nil))
def woX12_under : List Cond := [.fieldLink RX12 273 "StatementRules2Model" "thrown" "I", .fieldLink RX12 13 "StatementRules2Model" "kinds" "I", .methodLink RX12 279 yX12_in, .static yX12_in, .initialized RX12, .methodLink RX12 283 yX12_isUnder, .instanceMethod yX12_isUnder, .selects RX12 yX12_isUnder yX12_isUnder]
def wzX12_under : List Cond := .code yX12_under cX12_under 3 (some .int) :: (woX12_under ++ (wsX120 ++ (wzX12_in ++ (wzX12_isUnder ++ []))))
theorem wgX12_under : ∀ w ∈ wzX12_under, goodWord w = true := zg_cons rfl (zg_app (zg_lit (by decide +kernel)) (zg_app wgcX12 (zg_app wgX12_in (zg_app wgX12_isUnder zg_nil))))
def woX12_resource : List Cond := [.fieldLink RX12 273 "StatementRules2Model" "thrown" "I", .fieldLink RX12 13 "StatementRules2Model" "kinds" "I", .fieldLink RX12 20 "StatementRules2Model" "isNull" "[Z", .fieldLink RX12 24 "StatementRules2Model" "opening" "[I", .fieldLink RX12 27 "StatementRules2Model" "closing" "[I", .methodLink RX12 279 yX12_in, .static yX12_in, .initialized RX12]
def wzX12_resource : List Cond := .code yX12_resource cX12_resource 5 (some .int) :: (woX12_resource ++ (wsX120 ++ (wzX12_in ++ [])))
theorem wgX12_resource : ∀ w ∈ wzX12_resource, goodWord w = true := zg_cons rfl (zg_app (zg_lit (by decide +kernel)) (zg_app wgcX12 (zg_app wgX12_in zg_nil)))
def woX12_feed : List Cond := [.fieldLink RX12 273 "StatementRules2Model" "thrown" "I", .fieldLink RX12 276 "StatementRules2Model" "taped" "I", .fieldLink RX12 7 "StatementRules2Model" "tape" "[I"]
def wzX12_feed : List Cond := .code yX12_feed cX12_feed 8 (some .int) :: (woX12_feed ++ (wsX120 ++ []))
theorem wgX12_feed : ∀ w ∈ wzX12_feed, goodWord w = true := zg_cons rfl (zg_app (zg_lit (by decide +kernel)) (zg_app wgcX12 zg_nil))
def woX12_see : List Cond := [.fieldLink RX12 126 "StatementRules2Model" "seenName" "[J", .fieldLink RX12 361 "StatementRules2Model" "seen" "I", .fieldLink RX12 129 "StatementRules2Model" "seenSlot" "[I", .fieldLink RX12 364 "StatementRules2Model" "slots" "I", .fieldLink RX12 132 "StatementRules2Model" "seenCaught" "[Z"]
def wzX12_see : List Cond := .code yX12_see cX12_see 4 (some .int) :: (woX12_see ++ (wsX120 ++ []))
theorem wgX12_see : ∀ w ∈ wzX12_see, goodWord w = true := zg_cons rfl (zg_app (zg_lit (by decide +kernel)) (zg_app wgcX12 zg_nil))
def woX12_at : List Cond := [.fieldLink RX12 276 "StatementRules2Model" "taped" "I"]
def wzX12_at : List Cond := .code yX12_at cX12_at 2 (some .int) :: (woX12_at ++ (wsX120 ++ []))
theorem wgX12_at : ∀ w ∈ wzX12_at, goodWord w = true := zg_cons rfl (zg_app (zg_lit (by decide +kernel)) (zg_app wgcX12 zg_nil))
def woX12_next : List Cond := [.fieldLink RX12 291 "StatementRules2Model" "fault" "I", .fieldLink RX12 294 "StatementRules2Model" "tokens" "I", .fieldLink RX12 297 "StatementRules2Model" "to" "I", .fieldLink RX12 276 "StatementRules2Model" "taped" "I", .fieldLink RX12 304 "StatementRules2Model" "from" "I", .fieldLink RX12 307 "StatementRules2Model" "tok" "I", .methodLink RX12 300 yX12_at, .instanceMethod yX12_at, .selects RX12 yX12_at yX12_at, .initialized RX12]
def wzX12_next : List Cond := .code yX12_next cX12_next 2 none :: (woX12_next ++ (wsX120 ++ (wzX12_at ++ [])))
theorem wgX12_next : ∀ w ∈ wzX12_next, goodWord w = true := zg_cons rfl (zg_app (zg_lit (by decide +kernel)) (zg_app wgcX12 (zg_app wgX12_at zg_nil)))
def woX12_push : List Cond := [.fieldLink RX12 387 "StatementRules2Model" "top" "I", .fieldLink RX12 174 "StatementRules2Model" "fk" "[I", .fieldLink RX12 177 "StatementRules2Model" "fs" "[I"]
def wzX12_push : List Cond := .code yX12_push cX12_push 2 none :: (woX12_push ++ (wsX120 ++ []))
theorem wgX12_push : ∀ w ∈ wzX12_push, goodWord w = true := zg_cons rfl (zg_app (zg_lit (by decide +kernel)) (zg_app wgcX12 zg_nil))
def woX12_over : List Cond := [.fieldLink RX12 396 "StatementRules2Model" "res" "Z", .fieldLink RX12 387 "StatementRules2Model" "top" "I"]
def wzX12_over : List Cond := .code yX12_over cX12_over 2 none :: (woX12_over ++ (wsX120 ++ []))
theorem wgX12_over : ∀ w ∈ wzX12_over, goodWord w = true := zg_cons rfl (zg_app (zg_lit (by decide +kernel)) (zg_app wgcX12 zg_nil))
def woX12_list : List Cond := [.fieldLink RX12 177 "StatementRules2Model" "fs" "[I", .fieldLink RX12 180 "StatementRules2Model" "fp" "[I", .fieldLink RX12 307 "StatementRules2Model" "tok" "I", .methodLink RX12 490 yX12_over, .instanceMethod yX12_over, .selects RX12 yX12_over yX12_over, .initialized RX12]
def wzX12_list : List Cond := .code yX12_list cX12_list 2 none :: (woX12_list ++ (wsX120 ++ (wzX12_over ++ [])))
theorem wgX12_list : ∀ w ∈ wzX12_list, goodWord w = true := zg_cons rfl (zg_app (zg_lit (by decide +kernel)) (zg_app wgcX12 (zg_app wgX12_over zg_nil)))
def woX12_parse : List Cond := [.fieldLink RX12 387 "StatementRules2Model" "top" "I", .fieldLink RX12 291 "StatementRules2Model" "fault" "I", .fieldLink RX12 174 "StatementRules2Model" "fk" "[I", .methodLink RX12 390 yX12_push, .instanceMethod yX12_push, .selects RX12 yX12_push yX12_push, .initialized RX12, .methodLink RX12 399 yX12_list, .instanceMethod yX12_list, .selects RX12 yX12_list yX12_list]
def wzX12_parse : List Cond := .code yX12_parse cX12_parse 1 none :: (woX12_parse ++ (wsX120 ++ (wzX12_push ++ (wzX12_list ++ []))))
theorem wgX12_parse : ∀ w ∈ wzX12_parse, goodWord w = true := zg_cons rfl (zg_app (zg_lit (by decide +kernel)) (zg_app wgcX12 (zg_app wgX12_push (zg_app wgX12_list zg_nil))))
def woX12_can : List Cond := [.fieldLink RX12 291 "StatementRules2Model" "fault" "I", .fieldLink RX12 307 "StatementRules2Model" "tok" "I"]
def wzX12_can : List Cond := .code yX12_can cX12_can 2 (some .boolean) :: (woX12_can ++ (wsX120 ++ []))
theorem wgX12_can : ∀ w ∈ wzX12_can, goodWord w = true := zg_cons rfl (zg_app (zg_lit (by decide +kernel)) (zg_app wgcX12 zg_nil))
def woX12_read : List Cond := [.fieldLink RX12 273 "StatementRules2Model" "thrown" "I", .fieldLink RX12 361 "StatementRules2Model" "seen" "I", .fieldLink RX12 364 "StatementRules2Model" "slots" "I", .fieldLink RX12 367 "StatementRules2Model" "goals" "I", .fieldLink RX12 348 "StatementRules2Model" "opened" "I", .fieldLink RX12 494 "StatementRules2Model" "statements" "I", .fieldLink RX12 500 "StatementRules2Model" "tellings" "I", .fieldLink RX12 527 "StatementRules2Model" "jumps" "I", .fieldLink RX12 358 "StatementRules2Model" "codes" "I", .fieldLink RX12 478 "StatementRules2Model" "entries" "I", .fieldLink RX12 549 "StatementRules2Model" "tries" "I", .fieldLink RX12 561 "StatementRules2Model" "catches" "I", .fieldLink RX12 377 "StatementRules2Model" "walls" "I", .fieldLink RX12 384 "StatementRules2Model" "pends" "I", .fieldLink RX12 370 "StatementRules2Model" "depth" "I", .fieldLink RX12 297 "StatementRules2Model" "to" "I", .fieldLink RX12 291 "StatementRules2Model" "fault" "I", .fieldLink RX12 334 "StatementRules2Model" "late" "I", .fieldLink RX12 294 "StatementRules2Model" "tokens" "I", .constantLong RX12 564 (97), .constantLong RX12 566 (98), .fieldLink RX12 307 "StatementRules2Model" "tok" "I", .fieldLink RX12 276 "StatementRules2Model" "taped" "I", .fieldLink RX12 396 "StatementRules2Model" "res" "Z", .fieldLink RX12 571 "StatementRules2Model" "endsWell" "Z", .fieldLink RX12 574 "StatementRules2Model" "lastFault" "I", .fieldLink RX12 577 "StatementRules2Model" "hasProgram" "Z", .fieldLink RX12 580 "StatementRules2Model" "hasRun" "Z", .fieldLink RX12 583 "StatementRules2Model" "rowMany" "I", .methodLink RX12 506 yX12_see, .instanceMethod yX12_see, .selects RX12 yX12_see yX12_see, .initialized RX12, .methodLink RX12 345 yX12_next, .instanceMethod yX12_next, .selects RX12 yX12_next yX12_next, .methodLink RX12 568 yX12_parse, .instanceMethod yX12_parse, .selects RX12 yX12_parse yX12_parse, .methodLink RX12 341 yX12_can, .instanceMethod yX12_can, .selects RX12 yX12_can yX12_can]
def wzX12_read : List Cond := .code yX12_read cX12_read 1 (some .int) :: (woX12_read ++ (wsX120 ++ (wzX12_see ++ (wzX12_next ++ (wzX12_parse ++ (wzX12_can ++ []))))))
theorem wgX12_read : ∀ w ∈ wzX12_read, goodWord w = true := zg_cons rfl (zg_app (zg_lit (by decide +kernel)) (zg_app wgcX12 (zg_app wgX12_see (zg_app wgX12_next (zg_app wgX12_parse (zg_app wgX12_can zg_nil))))))
def woX4_init : List Cond := [.methodLink RX4 1 objectInit, .instanceMethod objectInit, .code objectInit ⟨#[0xb1]⟩ 1 none, .arrayClass .long, .fieldLink RX4 7 "StatementRules2$Names" "names" "[J", .arrayClass .int, .fieldLink RX4 13 "StatementRules2$Names" "cells" "[I", .fieldLink RX4 17 "StatementRules2$Names" "frames" "[I"]
def wzX4_init : List Cond := .code yX4_init cX4_init 1 none :: (woX4_init ++ (wsX40 ++ []))
theorem wgX4_init : ∀ w ∈ wzX4_init, goodWord w = true := zg_cons rfl (zg_app (zg_lit (by decide +kernel)) (zg_app wgcX4 zg_nil))
def woX6_init : List Cond := [.methodLink RX6 3 objectInit, .instanceMethod objectInit, .code objectInit ⟨#[0xb1]⟩ 1 none, .classLink RX6 9 RX5, .fieldLink RX6 11 "StatementRules2$Opens" "rows" "[LStatementRules2$Open;", .arrayClass .int, .fieldLink RX6 17 "StatementRules2$Opens" "jumps" "[I"]
def wzX6_init : List Cond := .code yX6_init cX6_init 1 none :: (woX6_init ++ (wsX60 ++ []))
theorem wgX6_init : ∀ w ∈ wzX6_init, goodWord w = true := zg_cons rfl (zg_app (zg_lit (by decide +kernel)) (zg_app wgcX6 zg_nil))
def woX0_init : List Cond := [.methodLink RX0 3 objectInit, .instanceMethod objectInit, .code objectInit ⟨#[0xb1]⟩ 1 none, .arrayClass .int, .fieldLink RX0 9 "StatementRules2$Code" "ops" "[I", .fieldLink RX0 15 "StatementRules2$Code" "arguments" "[I", .fieldLink RX0 18 "StatementRules2$Code" "targets" "[I", .fieldLink RX0 21 "StatementRules2$Code" "caseValues" "[I", .fieldLink RX0 24 "StatementRules2$Code" "caseTargets" "[I"]
def wzX0_init : List Cond := .code yX0_init cX0_init 1 none :: (woX0_init ++ (wsX00 ++ []))
theorem wgX0_init : ∀ w ∈ wzX0_init, goodWord w = true := zg_cons rfl (zg_app (zg_lit (by decide +kernel)) (zg_app wgcX0 zg_nil))
def woX10_init : List Cond := [.methodLink RX10 3 objectInit, .instanceMethod objectInit, .code objectInit ⟨#[0xb1]⟩ 1 none, .arrayClass .int, .fieldLink RX10 9 "StatementRules2$Told" "above" "[I", .fieldLink RX10 15 "StatementRules2$Told" "isNull" "[I", .fieldLink RX10 18 "StatementRules2$Told" "opening" "[I", .fieldLink RX10 21 "StatementRules2$Told" "closing" "[I", .fieldLink RX10 24 "StatementRules2$Told" "kindCount" "I"]
def wzX10_init : List Cond := .code yX10_init cX10_init 2 none :: (woX10_init ++ (wsX100 ++ []))
theorem wgX10_init : ∀ w ∈ wzX10_init, goodWord w = true := zg_cons rfl (zg_app (zg_lit (by decide +kernel)) (zg_app wgcX10 zg_nil))
def woX1_init : List Cond := [.methodLink RX1 3 objectInit, .instanceMethod objectInit, .code objectInit ⟨#[0xb1]⟩ 1 none, .classLink RX1 9 RX4, .instantiable RX4 4, .initialized RX4, .instanceMethod yX4_init, .fieldLink RX1 12 "StatementRules2$Formulas" "names" "LStatementRules2$Names;", .fieldLink RX1 18 "StatementRules2$Formulas" "tokens" "LStatementRules2$Tokens;", .fieldLink RX1 22 "StatementRules2$Formulas" "code" "LStatementRules2$Code;", .fieldLink RX1 26 "StatementRules2$Formulas" "told" "LStatementRules2$Told;"]
def wzX1_init : List Cond := .code yX1_init cX1_init 4 none :: (woX1_init ++ (wsX40 ++ (wsX70 ++ (wzX4_init ++ []))))
theorem wgX1_init : ∀ w ∈ wzX1_init, goodWord w = true := zg_cons rfl (zg_app (zg_lit (by decide +kernel)) (zg_app wgcX4 (zg_app wgcX7 (zg_app wgX4_init zg_nil))))
def woX7_init : List Cond := [.initialized RX1, .methodLink RX7 3 yX1_init, .instanceMethod yX1_init, .classLink RX7 9 RX6, .instantiable RX6 6, .initialized RX6, .instanceMethod yX6_init, .fieldLink RX7 14 "StatementRules2$Statements" "opens" "LStatementRules2$Opens;"]
def wzX7_init : List Cond := .code yX7_init cX7_init 4 none :: (woX7_init ++ (wsX60 ++ (wsX70 ++ (wzX1_init ++ (wzX6_init ++ [])))))
theorem wgX7_init : ∀ w ∈ wzX7_init, goodWord w = true := zg_cons rfl (zg_app (zg_lit (by decide +kernel)) (zg_app wgcX6 (zg_app wgcX7 (zg_app wgX1_init (zg_app wgX6_init zg_nil)))))
def woX3_init : List Cond := [.methodLink RX3 3 objectInit, .instanceMethod objectInit, .code objectInit ⟨#[0xb1]⟩ 1 none, .arrayClass .int, .fieldLink RX3 9 "StatementRules2$Machine" "cells" "[I", .fieldLink RX3 15 "StatementRules2$Machine" "values" "[I", .classLink RX3 18 RX2, .fieldLink RX3 20 "StatementRules2$Machine" "frames" "[LStatementRules2$Frame;", .classLink RX3 24 RX8, .fieldLink RX3 26 "StatementRules2$Machine" "pool" "[LStatementRules2$Thrown;", .fieldLink RX3 30 "StatementRules2$Machine" "opened" "[I", .fieldLink RX3 33 "StatementRules2$Machine" "rows" "[I", .fieldLink RX3 36 "StatementRules2$Machine" "told" "LStatementRules2$Told;", .fieldLink RX3 40 "StatementRules2$Machine" "code" "LStatementRules2$Code;"]
def wzX3_init : List Cond := .code yX3_init cX3_init 3 none :: (woX3_init ++ (wsX30 ++ []))
theorem wgX3_init : ∀ w ∈ wzX3_init, goodWord w = true := zg_cons rfl (zg_app (zg_lit (by decide +kernel)) (zg_app wgcX3 zg_nil))
def woX12_init : List Cond := [.methodLink RX12 1 objectInit, .instanceMethod objectInit, .code objectInit ⟨#[0xb1]⟩ 1 none, .arrayClass .int, .fieldLink RX12 7 "StatementRules2Model" "tape" "[I", .fieldLink RX12 13 "StatementRules2Model" "kinds" "I", .fieldLink RX12 17 "StatementRules2Model" "above" "[I", .arrayClass .boolean, .fieldLink RX12 20 "StatementRules2Model" "isNull" "[Z", .fieldLink RX12 24 "StatementRules2Model" "opening" "[I", .fieldLink RX12 27 "StatementRules2Model" "closing" "[I", .arrayClass .long, .constantLong RX12 30 (6909556), .constantLong RX12 32 (7758194), .constantLong RX12 34 (7106407), .constantLong RX12 36 (26982), .constantLong RX12 38 (1701606245), .constantLong RX12 40 (512852847717), .constantLong RX12 42 (25711), .constantLong RX12 44 (6713202), .constantLong RX12 46 (422826041707), .constantLong RX12 48 (7165066978433856869), .constantLong RX12 50 (125780071117422), .constantLong RX12 52 (499968536439), .constantLong RX12 54 (1819239275), .constantLong RX12 56 (7631481), .constantLong RX12 58 (2003399784), .constantLong RX12 60 (426836779880), .constantLong RX12 62 (28826370426301561), .constantLong RX12 64 (107148485161588), .constantLong RX12 66 (126956707537768), .constantLong RX12 68 (1667330917), .constantLong RX12 70 (28258988067220596), .constantLong RX12 72 (521459297380), .constantLong RX12 74 (1953658213), .constantLong RX12 76 (439721161573), .constantLong RX12 78 (1853189228), .fieldLink RX12 80 "StatementRules2Model" "words" "[J", .fieldLink RX12 84 "StatementRules2Model" "op" "[I", .fieldLink RX12 87 "StatementRules2Model" "ix" "[I", .fieldLink RX12 90 "StatementRules2Model" "iy" "[I", .fieldLink RX12 93 "StatementRules2Model" "entryValue" "[I", .fieldLink RX12 96 "StatementRules2Model" "entryAt" "[I", .fieldLink RX12 99 "StatementRules2Model" "entryNext" "[I", .fieldLink RX12 102 "StatementRules2Model" "entryElse" "[Z", .fieldLink RX12 105 "StatementRules2Model" "tryCatch" "[I", .fieldLink RX12 108 "StatementRules2Model" "tryFinal" "[I", .fieldLink RX12 111 "StatementRules2Model" "tryEnd" "[I", .fieldLink RX12 114 "StatementRules2Model" "catchKind" "[I", .fieldLink RX12 117 "StatementRules2Model" "catchAt" "[I", .fieldLink RX12 120 "StatementRules2Model" "catchSlot" "[I", .fieldLink RX12 123 "StatementRules2Model" "catchNext" "[I", .fieldLink RX12 126 "StatementRules2Model" "seenName" "[J", .fieldLink RX12 129 "StatementRules2Model" "seenSlot" "[I", .fieldLink RX12 132 "StatementRules2Model" "seenCaught" "[Z", .fieldLink RX12 135 "StatementRules2Model" "goalSort" "[I", .fieldLink RX12 138 "StatementRules2Model" "goalName" "[J", .fieldLink RX12 141 "StatementRules2Model" "goalLoop" "[I", .fieldLink RX12 144 "StatementRules2Model" "goalDepth" "[I", .fieldLink RX12 147 "StatementRules2Model" "breaks" "[I", .fieldLink RX12 150 "StatementRules2Model" "continues" "[I", .fieldLink RX12 153 "StatementRules2Model" "broken" "[Z", .fieldLink RX12 156 "StatementRules2Model" "continued" "[Z", .fieldLink RX12 159 "StatementRules2Model" "wallTry" "[I", .fieldLink RX12 162 "StatementRules2Model" "wallGoals" "[I", .fieldLink RX12 165 "StatementRules2Model" "pendGoal" "[I", .fieldLink RX12 168 "StatementRules2Model" "pendBreak" "[Z", .fieldLink RX12 171 "StatementRules2Model" "pendTry" "[I", .fieldLink RX12 174 "StatementRules2Model" "fk" "[I", .fieldLink RX12 177 "StatementRules2Model" "fs" "[I", .fieldLink RX12 180 "StatementRules2Model" "fp" "[I", .fieldLink RX12 183 "StatementRules2Model" "fq" "[I", .fieldLink RX12 186 "StatementRules2Model" "fr" "[I", .fieldLink RX12 189 "StatementRules2Model" "fv" "[I", .fieldLink RX12 192 "StatementRules2Model" "fw" "[I", .fieldLink RX12 195 "StatementRules2Model" "fx" "[I", .fieldLink RX12 198 "StatementRules2Model" "fy" "[I", .fieldLink RX12 201 "StatementRules2Model" "fz" "[I", .fieldLink RX12 204 "StatementRules2Model" "fn" "[J", .fieldLink RX12 207 "StatementRules2Model" "rowSort" "[I", .fieldLink RX12 210 "StatementRules2Model" "rowNumber" "[I", .fieldLink RX12 213 "StatementRules2Model" "vals" "[I", .fieldLink RX12 216 "StatementRules2Model" "thingKind" "[I", .fieldLink RX12 219 "StatementRules2Model" "thingNumber" "[I", .fieldLink RX12 222 "StatementRules2Model" "suppressedMany" "[I", .fieldLink RX12 225 "StatementRules2Model" "suppressedKind" "[I", .fieldLink RX12 228 "StatementRules2Model" "suppressedNumber" "[I", .fieldLink RX12 231 "StatementRules2Model" "held" "[I", .fieldLink RX12 234 "StatementRules2Model" "vs" "[I", .fieldLink RX12 237 "StatementRules2Model" "openOf" "[I", .fieldLink RX12 240 "StatementRules2Model" "waits" "[I", .fieldLink RX12 243 "StatementRules2Model" "rk" "[I", .fieldLink RX12 246 "StatementRules2Model" "ra" "[I", .fieldLink RX12 249 "StatementRules2Model" "rb" "[I", .fieldLink RX12 252 "StatementRules2Model" "rc" "[I", .fieldLink RX12 255 "StatementRules2Model" "rHigh" "[I", .fieldLink RX12 258 "StatementRules2Model" "rHow" "[I", .fieldLink RX12 261 "StatementRules2Model" "rTo" "[I", .fieldLink RX12 264 "StatementRules2Model" "rDepth" "[I", .fieldLink RX12 267 "StatementRules2Model" "rValue" "[I", .fieldLink RX12 270 "StatementRules2Model" "rThing" "[I"]
def wzX12_init : List Cond := .code yX12_init cX12_init 1 none :: (woX12_init ++ (wsX120 ++ []))
theorem wgX12_init : ∀ w ∈ wzX12_init, goodWord w = true := zg_cons rfl (zg_app (zg_lit (by decide +kernel)) (zg_app wgcX12 zg_nil))
theorem hX10_addKind_X11_put_n28 : GoodIn wzX10_addKind wzX11_put := (zg_of (fun _ h => List.mem_cons_of_mem _ (List.mem_append_right _ (List.mem_append_right _ (List.mem_append_left _ (h))))) wgX11_put)
set_option maxRecDepth 20000 in
theorem hX11_kind_X10_isKind_v62 : GoodIn wzX11_kind (wsV RX11 62 RX10 yX10_isKind wzX10_isKind) := goodIn_app (goodIn_r _ [2, 3, 4, 5] rfl (by decide +kernel)) (zg_of (fun _ h => List.mem_cons_of_mem _ (List.mem_append_right _ (List.mem_append_right _ (List.mem_append_left _ (h))))) wgX10_isKind)
set_option maxRecDepth 20000 in
theorem hX11_kind_X10_isFull_v66 : GoodIn wzX11_kind (wsV RX11 66 RX10 yX10_isFull wzX10_isFull) := goodIn_app (goodIn_r _ [6, 7, 8, 5] rfl (by decide +kernel)) (zg_of (fun _ h => List.mem_cons_of_mem _ (List.mem_append_right _ (List.mem_append_right _ (List.mem_append_right _ (List.mem_append_left _ (h)))))) wgX10_isFull)
set_option maxRecDepth 20000 in
theorem hX11_kind_X10_addKind_v70 : GoodIn wzX11_kind (wsV RX11 70 RX10 yX10_addKind wzX10_addKind) := goodIn_app (goodIn_r _ [9, 10, 11, 5] rfl (by decide +kernel)) (zg_of (fun _ h => List.mem_cons_of_mem _ (List.mem_append_right _ (List.mem_append_right _ (List.mem_append_right _ (List.mem_append_right _ (List.mem_append_left _ (h))))))) wgX10_addKind)
set_option maxRecDepth 20000 in
theorem hX11_isKindOrNothing_X10_isKind_v62 : GoodIn wzX11_isKindOrNothing (wsV RX11 62 RX10 yX10_isKind wzX10_isKind) := goodIn_app (goodIn_r _ [2, 3, 4, 5] rfl (by decide +kernel)) (zg_of (fun _ h => List.mem_cons_of_mem _ (List.mem_append_right _ (List.mem_append_right _ (List.mem_append_left _ (h))))) wgX10_isKind)
theorem hX10_tellResource_X11_put_n28 : GoodIn wzX10_tellResource wzX11_put := (zg_of (fun _ h => List.mem_cons_of_mem _ (List.mem_append_right _ (List.mem_append_right _ (List.mem_append_left _ (h))))) wgX11_put)
set_option maxRecDepth 20000 in
theorem hX11_resource_X11_isKindOrNothing_v74 : GoodIn wzX11_resource (wsV RX11 74 RX11 yX11_isKindOrNothing wzX11_isKindOrNothing) := goodIn_app (goodIn_r _ [2, 3, 4, 5] rfl (by decide +kernel)) (zg_of (fun _ h => List.mem_cons_of_mem _ (List.mem_append_right _ (List.mem_append_right _ (List.mem_append_left _ (h))))) wgX11_isKindOrNothing)
set_option maxRecDepth 20000 in
theorem hX11_resource_X10_tellResource_v77 : GoodIn wzX11_resource (wsV RX11 77 RX10 yX10_tellResource wzX10_tellResource) := goodIn_app (goodIn_r _ [6, 7, 8, 9] rfl (by decide +kernel)) (zg_of (fun _ h => List.mem_cons_of_mem _ (List.mem_append_right _ (List.mem_append_right _ (List.mem_append_right _ (List.mem_append_left _ (h)))))) wgX10_tellResource)
theorem hX10_isUnder_X11_at_n32 : GoodIn wzX10_isUnder wzX11_at := (zg_of (fun _ h => List.mem_cons_of_mem _ (List.mem_append_right _ (List.mem_append_right _ (List.mem_append_left _ (h))))) wgX11_at)
set_option maxRecDepth 20000 in
theorem hX11_under_X10_isKind_v62 : GoodIn wzX11_under (wsV RX11 62 RX10 yX10_isKind wzX10_isKind) := goodIn_app (goodIn_r _ [2, 3, 4, 5] rfl (by decide +kernel)) (zg_of (fun _ h => List.mem_cons_of_mem _ (List.mem_append_right _ (List.mem_append_right _ (List.mem_append_left _ (h))))) wgX10_isKind)
set_option maxRecDepth 20000 in
theorem hX11_under_X10_isUnder_v144 : GoodIn wzX11_under (wsV RX11 144 RX10 yX10_isUnder wzX10_isUnder) := goodIn_app (goodIn_r _ [6, 7, 8, 5] rfl (by decide +kernel)) (zg_of (fun _ h => List.mem_cons_of_mem _ (List.mem_append_right _ (List.mem_append_right _ (List.mem_append_right _ (List.mem_append_left _ (h)))))) wgX10_isUnder)
set_option maxRecDepth 20000 in
theorem hX11_addBytes_X11_put_s58 : GoodIn wzX11_addBytes (va_wsS RX11 58 yX11_put wzX11_put) := goodIn_app (goodIn_r _ [3, 4, 5] rfl (by decide +kernel)) (zg_of (fun _ h => List.mem_cons_of_mem _ (List.mem_append_right _ (List.mem_append_right _ (List.mem_append_left _ (h))))) wgX11_put)
set_option maxRecDepth 20000 in
theorem hX11_feed_X11_addBytes_v54 : GoodIn wzX11_feed (wsV RX11 54 RX11 yX11_addBytes wzX11_addBytes) := goodIn_app (goodIn_r _ [2, 3, 4, 5] rfl (by decide +kernel)) (zg_of (fun _ h => List.mem_cons_of_mem _ (List.mem_append_right _ (List.mem_append_right _ (List.mem_append_left _ (h))))) wgX11_addBytes)
theorem hX0_add_X11_put_n53 : GoodIn wzX0_add wzX11_put := (zg_of (fun _ h => List.mem_cons_of_mem _ (List.mem_append_right _ (List.mem_append_right _ (List.mem_append_left _ (h))))) wgX11_put)
set_option maxRecDepth 20000 in
theorem hX9_advance_X9_byteAt_v43 : GoodIn wzX9_advance (wsV RX9 43 RX9 yX9_byteAt wzX9_byteAt) := goodIn_app (goodIn_r _ [5, 6, 7, 8] rfl (by decide +kernel)) (zg_of (fun _ h => List.mem_cons_of_mem _ (List.mem_append_right _ (List.mem_append_right _ (List.mem_append_left _ (h))))) wgX9_byteAt)
set_option maxRecDepth 20000 in
theorem hX9_start_X9_advance_v37 : GoodIn wzX9_start (wsV RX9 37 RX9 yX9_advance wzX9_advance) := goodIn_app (goodIn_r _ [3, 4, 5, 6] rfl (by decide +kernel)) (zg_of (fun _ h => List.mem_cons_of_mem _ (List.mem_append_right _ (List.mem_append_right _ (List.mem_append_left _ (h))))) wgX9_advance)
theorem hX6_push_X5_init_n40 : GoodIn wzX6_push wzX5_init := (zg_of (fun _ h => List.mem_cons_of_mem _ (List.mem_append_right _ (List.mem_append_right _ (List.mem_append_right _ (List.mem_append_left _ (h)))))) wgX5_init)
set_option maxRecDepth 20000 in
theorem hX5_hasOneBody_X5_isLoop_v15 : GoodIn wzX5_hasOneBody (wsV RX5 15 RX5 yX5_isLoop wzX5_isLoop) := goodIn_app (goodIn_r _ [2, 3, 4, 5] rfl (by decide +kernel)) (zg_of (fun _ h => List.mem_cons_of_mem _ (List.mem_append_right _ (List.mem_append_right _ (List.mem_append_left _ (h))))) wgX5_isLoop)
set_option maxRecDepth 20000 in
theorem hX1_expect_X1_found_u42 : GoodIn wzX1_expect (va_wsU RX1 42 RX7 "StatementRules2$Formulas" ⟨"StatementRules2$Formulas", "found", "(I)Z"⟩ yX1_found wzX1_found) := goodIn_app (goodIn_r _ [2, 3, 4, 5, 6] rfl (by decide +kernel)) (zg_of (fun _ h => List.mem_cons_of_mem _ (List.mem_append_right _ (List.mem_append_right _ (List.mem_append_left _ (h))))) wgX1_found)
set_option maxRecDepth 20000 in
theorem hX1_expect_X9_advance_v56 : GoodIn wzX1_expect (wsV RX1 56 RX9 yX9_advance wzX9_advance) := goodIn_app (goodIn_r _ [7, 8, 9, 10] rfl (by decide +kernel)) (zg_of (fun _ h => List.mem_cons_of_mem _ (List.mem_append_right _ (List.mem_append_right _ (List.mem_append_right _ (List.mem_append_left _ (h)))))) wgX9_advance)
set_option maxRecDepth 20000 in
theorem hX7_endList_X1_expect_u155 : GoodIn wzX7_endList (va_wsU RX7 155 RX7 "StatementRules2$Formulas" ⟨"StatementRules2$Statements", "expect", "(I)V"⟩ yX1_expect wzX1_expect) := goodIn_app (goodIn_r _ [5, 6, 7, 8, 9] rfl (by decide +kernel)) (zg_of (fun _ h => List.mem_cons_of_mem _ (List.mem_append_right _ (List.mem_append_right _ (List.mem_append_right _ (List.mem_append_right _ (List.mem_append_left _ (h))))))) wgX1_expect)
set_option maxRecDepth 20000 in
theorem hX7_endList_X0_add_v176 : GoodIn wzX7_endList (wsV RX7 176 RX0 yX0_add wzX0_add) := goodIn_app (goodIn_r _ [10, 11, 12, 13] rfl (by decide +kernel)) (zg_of (fun _ h => List.mem_cons_of_mem _ (List.mem_append_right _ (List.mem_append_right _ (List.mem_append_right _ (List.mem_append_right _ (List.mem_append_right _ (List.mem_append_left _ (h)))))))) wgX0_add)
set_option maxRecDepth 20000 in
theorem hX7_endList_X6_pop_v369 : GoodIn wzX7_endList (wsV RX7 369 RX6 yX6_pop wzX6_pop) := goodIn_app (goodIn_r _ [14, 15, 16, 17] rfl (by decide +kernel)) (zg_of (fun _ h => List.mem_cons_of_mem _ (List.mem_append_right _ (List.mem_append_right _ (List.mem_append_right _ (List.mem_append_right _ (List.mem_append_right _ (List.mem_append_right _ (List.mem_append_left _ (h))))))))) wgX6_pop)
set_option maxRecDepth 20000 in
theorem hX7_turns_X6_row_v93 : GoodIn wzX7_turns (wsV RX7 93 RX6 yX6_row wzX6_row) := goodIn_app (goodIn_r _ [4, 5, 6, 7] rfl (by decide +kernel)) (zg_of (fun _ h => List.mem_cons_of_mem _ (List.mem_append_right _ (List.mem_append_right _ (List.mem_append_right _ (List.mem_append_right _ (List.mem_append_left _ (h))))))) wgX6_row)
set_option maxRecDepth 20000 in
theorem hX7_turns_X5_hasOneBody_v97 : GoodIn wzX7_turns (wsV RX7 97 RX5 yX5_hasOneBody wzX5_hasOneBody) := goodIn_app (goodIn_r _ [8, 9, 10, 11] rfl (by decide +kernel)) (zg_of (fun _ h => List.mem_cons_of_mem _ (List.mem_append_right _ (List.mem_append_right _ (List.mem_append_right _ (List.mem_append_right _ (List.mem_append_right _ (List.mem_append_left _ (h)))))))) wgX5_hasOneBody)
set_option maxRecDepth 20000 in
theorem hX7_turns_X1_found_u110 : GoodIn wzX7_turns (va_wsU RX7 110 RX7 "StatementRules2$Formulas" ⟨"StatementRules2$Statements", "found", "(I)Z"⟩ yX1_found wzX1_found) := goodIn_app (goodIn_r _ [12, 13, 14, 15, 16] rfl (by decide +kernel)) (zg_of (fun _ h => List.mem_cons_of_mem _ (List.mem_append_right _ (List.mem_append_right _ (List.mem_append_right _ (List.mem_append_right _ (List.mem_append_right _ (List.mem_append_right _ (List.mem_append_left _ (h))))))))) wgX1_found)
set_option maxRecDepth 20000 in
theorem hX7_turns_X7_endList_v120 : GoodIn wzX7_turns (wsV RX7 120 RX7 yX7_endList wzX7_endList) := goodIn_app (goodIn_r _ [17, 18, 19, 20] rfl (by decide +kernel)) (zg_of (fun _ h => List.mem_cons_of_mem _ (List.mem_append_right _ (List.mem_append_right _ (List.mem_append_right _ (List.mem_append_right _ (List.mem_append_right _ (List.mem_append_right _ (List.mem_append_right _ (List.mem_append_left _ (h)))))))))) wgX7_endList)
set_option maxRecDepth 20000 in
theorem hX7_translate_X0_clear_v24 : GoodIn wzX7_translate (wsV RX7 24 RX0 yX0_clear wzX0_clear) := goodIn_app (goodIn_r _ [19, 20, 21, 22] rfl (by decide +kernel)) (zg_of (fun _ h => List.mem_cons_of_mem _ (List.mem_append_right _ (List.mem_append_right _ (List.mem_append_right _ (List.mem_append_left _ (h)))))) wgX0_clear)
set_option maxRecDepth 20000 in
theorem hX7_translate_X0_newCells_v41 : GoodIn wzX7_translate (wsV RX7 41 RX0 yX0_newCells wzX0_newCells) := goodIn_app (goodIn_r _ [23, 24, 25, 22] rfl (by decide +kernel)) (zg_of (fun _ h => List.mem_cons_of_mem _ (List.mem_append_right _ (List.mem_append_right _ (List.mem_append_right _ (List.mem_append_right _ (List.mem_append_left _ (h))))))) wgX0_newCells)
set_option maxRecDepth 20000 in
theorem hX7_translate_X4_add_v45 : GoodIn wzX7_translate (wsV RX7 45 RX4 yX4_add wzX4_add) := goodIn_app (goodIn_r _ [26, 27, 28, 29] rfl (by decide +kernel)) (zg_of (fun _ h => List.mem_cons_of_mem _ (List.mem_append_right _ (List.mem_append_right _ (List.mem_append_right _ (List.mem_append_right _ (List.mem_append_right _ (List.mem_append_left _ (h)))))))) wgX4_add)
set_option maxRecDepth 20000 in
theorem hX7_translate_X6_clear_v51 : GoodIn wzX7_translate (wsV RX7 51 RX6 yX6_clear wzX6_clear) := goodIn_app (goodIn_r _ [30, 31, 32, 33] rfl (by decide +kernel)) (zg_of (fun _ h => List.mem_cons_of_mem _ (List.mem_append_right _ (List.mem_append_right _ (List.mem_append_right _ (List.mem_append_right _ (List.mem_append_right _ (List.mem_append_right _ (List.mem_append_left _ (h))))))))) wgX6_clear)
set_option maxRecDepth 20000 in
theorem hX7_translate_X9_start_v75 : GoodIn wzX7_translate (wsV RX7 75 RX9 yX9_start wzX9_start) := goodIn_app (goodIn_r _ [34, 35, 36, 37] rfl (by decide +kernel)) (zg_of (fun _ h => List.mem_cons_of_mem _ (List.mem_append_right _ (List.mem_append_right _ (List.mem_append_right _ (List.mem_append_right _ (List.mem_append_right _ (List.mem_append_right _ (List.mem_append_right _ (List.mem_append_left _ (h)))))))))) wgX9_start)
set_option maxRecDepth 20000 in
theorem hX7_translate_X6_push_v81 : GoodIn wzX7_translate (wsV RX7 81 RX6 yX6_push wzX6_push) := goodIn_app (goodIn_r _ [38, 39, 40, 33] rfl (by decide +kernel)) (zg_of (fun _ h => List.mem_cons_of_mem _ (List.mem_append_right _ (List.mem_append_right _ (List.mem_append_right _ (List.mem_append_right _ (List.mem_append_right _ (List.mem_append_right _ (List.mem_append_right _ (List.mem_append_right _ (List.mem_append_left _ (h))))))))))) wgX6_push)
set_option maxRecDepth 20000 in
theorem hX7_translate_X7_turns_v85 : GoodIn wzX7_translate (wsV RX7 85 RX7 yX7_turns wzX7_turns) := goodIn_app (goodIn_r _ [41, 42, 43, 44] rfl (by decide +kernel)) (zg_of (fun _ h => List.mem_cons_of_mem _ (List.mem_append_right _ (List.mem_append_right _ (List.mem_append_right _ (List.mem_append_right _ (List.mem_append_right _ (List.mem_append_right _ (List.mem_append_right _ (List.mem_append_right _ (List.mem_append_right _ (List.mem_append_left _ (h)))))))))))) wgX7_turns)
set_option maxRecDepth 20000 in
theorem hX11_read_X7_translate_v88 : GoodIn wzX11_read (wsV RX11 88 RX7 yX7_translate wzX7_translate) := goodIn_app (goodIn_r _ [7, 8, 9, 10] rfl (by decide +kernel)) (zg_of (fun _ h => List.mem_cons_of_mem _ (List.mem_append_right _ (List.mem_append_right _ (List.mem_append_right _ (List.mem_append_left _ (h)))))) wgX7_translate)
set_option maxRecDepth 20000 in
theorem hX12_cut_X12_in_s279 : GoodIn wzX12_cut (va_wsS RX12 279 yX12_in wzX12_in) := goodIn_app (goodIn_r _ [3, 4, 5] rfl (by decide +kernel)) (zg_of (fun _ h => List.mem_cons_of_mem _ (List.mem_append_right _ (List.mem_append_right _ (List.mem_append_left _ (h))))) wgX12_in)
set_option maxRecDepth 20000 in
theorem hX12_program_X12_in_s279 : GoodIn wzX12_program (va_wsS RX12 279 yX12_in wzX12_in) := goodIn_app (goodIn_r _ [3, 4, 5] rfl (by decide +kernel)) (zg_of (fun _ h => List.mem_cons_of_mem _ (List.mem_append_right _ (List.mem_append_right _ (List.mem_append_left _ (h))))) wgX12_in)
set_option maxRecDepth 20000 in
theorem hX12_ran_X12_in_s279 : GoodIn wzX12_ran (va_wsS RX12 279 yX12_in wzX12_in) := goodIn_app (goodIn_r _ [3, 4, 5] rfl (by decide +kernel)) (zg_of (fun _ h => List.mem_cons_of_mem _ (List.mem_append_right _ (List.mem_append_right _ (List.mem_append_left _ (h))))) wgX12_in)
set_option maxRecDepth 20000 in
theorem hX12_kind_X12_in_s279 : GoodIn wzX12_kind (va_wsS RX12 279 yX12_in wzX12_in) := goodIn_app (goodIn_r _ [4, 5, 6] rfl (by decide +kernel)) (zg_of (fun _ h => List.mem_cons_of_mem _ (List.mem_append_right _ (List.mem_append_right _ (List.mem_append_left _ (h))))) wgX12_in)
set_option maxRecDepth 20000 in
theorem hX12_under_X12_in_s279 : GoodIn wzX12_under (va_wsS RX12 279 yX12_in wzX12_in) := goodIn_app (goodIn_r _ [3, 4, 5] rfl (by decide +kernel)) (zg_of (fun _ h => List.mem_cons_of_mem _ (List.mem_append_right _ (List.mem_append_right _ (List.mem_append_left _ (h))))) wgX12_in)
set_option maxRecDepth 20000 in
theorem hX12_under_X12_isUnder_v283 : GoodIn wzX12_under (wsV RX12 283 RX12 yX12_isUnder wzX12_isUnder) := goodIn_app (goodIn_r _ [6, 7, 8, 5] rfl (by decide +kernel)) (zg_of (fun _ h => List.mem_cons_of_mem _ (List.mem_append_right _ (List.mem_append_right _ (List.mem_append_right _ (List.mem_append_left _ (h)))))) wgX12_isUnder)
set_option maxRecDepth 20000 in
theorem hX12_resource_X12_in_s279 : GoodIn wzX12_resource (va_wsS RX12 279 yX12_in wzX12_in) := goodIn_app (goodIn_r _ [6, 7, 8] rfl (by decide +kernel)) (zg_of (fun _ h => List.mem_cons_of_mem _ (List.mem_append_right _ (List.mem_append_right _ (List.mem_append_left _ (h))))) wgX12_in)
set_option maxRecDepth 20000 in
theorem hX12_next_X12_at_v300 : GoodIn wzX12_next (wsV RX12 300 RX12 yX12_at wzX12_at) := goodIn_app (goodIn_r _ [7, 8, 9, 10] rfl (by decide +kernel)) (zg_of (fun _ h => List.mem_cons_of_mem _ (List.mem_append_right _ (List.mem_append_right _ (List.mem_append_left _ (h))))) wgX12_at)
set_option maxRecDepth 20000 in
theorem hX12_list_X12_over_v490 : GoodIn wzX12_list (wsV RX12 490 RX12 yX12_over wzX12_over) := goodIn_app (goodIn_r _ [4, 5, 6, 7] rfl (by decide +kernel)) (zg_of (fun _ h => List.mem_cons_of_mem _ (List.mem_append_right _ (List.mem_append_right _ (List.mem_append_left _ (h))))) wgX12_over)
set_option maxRecDepth 20000 in
theorem hX12_parse_X12_push_v390 : GoodIn wzX12_parse (wsV RX12 390 RX12 yX12_push wzX12_push) := goodIn_app (goodIn_r _ [4, 5, 6, 7] rfl (by decide +kernel)) (zg_of (fun _ h => List.mem_cons_of_mem _ (List.mem_append_right _ (List.mem_append_right _ (List.mem_append_left _ (h))))) wgX12_push)
set_option maxRecDepth 20000 in
theorem hX12_parse_X12_list_v399 : GoodIn wzX12_parse (wsV RX12 399 RX12 yX12_list wzX12_list) := goodIn_app (goodIn_r _ [8, 9, 10, 7] rfl (by decide +kernel)) (zg_of (fun _ h => List.mem_cons_of_mem _ (List.mem_append_right _ (List.mem_append_right _ (List.mem_append_right _ (List.mem_append_left _ (h)))))) wgX12_list)
set_option maxRecDepth 20000 in
theorem hX12_read_X12_see_v506 : GoodIn wzX12_read (wsV RX12 506 RX12 yX12_see wzX12_see) := goodIn_app (goodIn_r _ [30, 31, 32, 33] rfl (by decide +kernel)) (zg_of (fun _ h => List.mem_cons_of_mem _ (List.mem_append_right _ (List.mem_append_right _ (List.mem_append_left _ (h))))) wgX12_see)
set_option maxRecDepth 20000 in
theorem hX12_read_X12_next_v345 : GoodIn wzX12_read (wsV RX12 345 RX12 yX12_next wzX12_next) := goodIn_app (goodIn_r _ [34, 35, 36, 33] rfl (by decide +kernel)) (zg_of (fun _ h => List.mem_cons_of_mem _ (List.mem_append_right _ (List.mem_append_right _ (List.mem_append_right _ (List.mem_append_left _ (h)))))) wgX12_next)
set_option maxRecDepth 20000 in
theorem hX12_read_X12_parse_v568 : GoodIn wzX12_read (wsV RX12 568 RX12 yX12_parse wzX12_parse) := goodIn_app (goodIn_r _ [37, 38, 39, 33] rfl (by decide +kernel)) (zg_of (fun _ h => List.mem_cons_of_mem _ (List.mem_append_right _ (List.mem_append_right _ (List.mem_append_right _ (List.mem_append_right _ (List.mem_append_left _ (h))))))) wgX12_parse)
set_option maxRecDepth 20000 in
theorem hX12_read_X12_can_v341 : GoodIn wzX12_read (wsV RX12 341 RX12 yX12_can wzX12_can) := goodIn_app (goodIn_r _ [40, 41, 42, 33] rfl (by decide +kernel)) (zg_of (fun _ h => List.mem_cons_of_mem _ (List.mem_append_right _ (List.mem_append_right _ (List.mem_append_right _ (List.mem_append_right _ (List.mem_append_right _ (List.mem_append_left _ (h)))))))) wgX12_can)
theorem hX1_init_X4_init_n11 : GoodIn wzX1_init wzX4_init := (zg_of (fun _ h => List.mem_cons_of_mem _ (List.mem_append_right _ (List.mem_append_right _ (List.mem_append_right _ (List.mem_append_left _ (h)))))) wgX4_init)
theorem hX7_init_X1_init_i3 : GoodIn wzX7_init wzX1_init := (zg_of (fun _ h => List.mem_cons_of_mem _ (List.mem_append_right _ (List.mem_append_right _ (List.mem_append_right _ (List.mem_append_left _ (h)))))) wgX1_init)
theorem hX7_init_X6_init_n11 : GoodIn wzX7_init wzX6_init := (zg_of (fun _ h => List.mem_cons_of_mem _ (List.mem_append_right _ (List.mem_append_right _ (List.mem_append_right _ (List.mem_append_right _ (List.mem_append_left _ (h))))))) wgX6_init)
