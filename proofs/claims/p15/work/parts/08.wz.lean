theorem zg_nil : ∀ w ∈ ([] : List Cond), goodWord w = true := fun _ h => absurd h List.not_mem_nil
theorem zg_cons {c : Cond} {l : List Cond} (hc : goodWord c = true) (hl : ∀ w ∈ l, goodWord w = true) : ∀ w ∈ c :: l, goodWord w = true := fun w h => (List.mem_cons.mp h).elim (fun e => by rw [e]; exact hc) (hl w)
theorem zg_app {a b : List Cond} (ha : ∀ w ∈ a, goodWord w = true) (hb : ∀ w ∈ b, goodWord w = true) : ∀ w ∈ a ++ b, goodWord w = true := fun w h => (List.mem_append.mp h).elim (ha w) (hb w)
theorem zg_lit {l : List Cond} (h : l.all goodWord = true) : ∀ w ∈ l, goodWord w = true := List.all_eq_true.mp h
theorem zg_of {big ws : List Cond} (hm : ∀ w ∈ ws, w ∈ big) (hg : ∀ w ∈ ws, goodWord w = true) : GoodIn big ws := fun w h => ⟨hm w h, good_of_word (hg w h)⟩
theorem zt_nil : ∀ w ∈ ([] : List Cond), w ∈ lw_tbl := fun _ h => absurd h List.not_mem_nil
theorem zt_cons {c : Cond} {l : List Cond} (hc : c ∈ lw_tbl) (hl : ∀ w ∈ l, w ∈ lw_tbl) : ∀ w ∈ c :: l, w ∈ lw_tbl := fun w h => (List.mem_cons.mp h).elim (fun e => by rw [e]; exact hc) (hl w)
theorem zt_app {a b : List Cond} (ha : ∀ w ∈ a, w ∈ lw_tbl) (hb : ∀ w ∈ b, w ∈ lw_tbl) : ∀ w ∈ a ++ b, w ∈ lw_tbl := fun w h => (List.mem_append.mp h).elim (ha w) (hb w)
theorem wgcX9 : ∀ w ∈ wsX90, goodWord w = true := zg_lit (by decide +kernel)
def woX9_isDigit : List Cond := []
def wzX9_isDigit : List Cond := .code yX9_isDigit cX9_isDigit 1 (some .boolean) :: (woX9_isDigit ++ [])
theorem wgX9_isDigit : ∀ w ∈ wzX9_isDigit, goodWord w = true := zg_cons rfl (zg_app (zg_lit (by decide +kernel)) zg_nil)
def woX9_isLetter : List Cond := []
def wzX9_isLetter : List Cond := .code yX9_isLetter cX9_isLetter 1 (some .boolean) :: (woX9_isLetter ++ [])
theorem wgX9_isLetter : ∀ w ∈ wzX9_isLetter, goodWord w = true := zg_cons rfl (zg_app (zg_lit (by decide +kernel)) zg_nil)
def woX9_byteAt : List Cond := [.fieldLink RX9 31 "StatementRules2$Tokens" "length" "I", .fieldLink RX9 15 "StatementRules2$Tokens" "tape" "[I"]
def wzX9_byteAt : List Cond := .code yX9_byteAt cX9_byteAt 2 (some .int) :: (woX9_byteAt ++ (wsX90 ++ []))
theorem wgX9_byteAt : ∀ w ∈ wzX9_byteAt, goodWord w = true := zg_cons rfl (zg_app (zg_lit (by decide +kernel)) (zg_app wgcX9 zg_nil))
def woX9_takeNumber : List Cond := [.fieldLink RX9 66 "StatementRules2$Tokens" "value" "I", .fieldLink RX9 34 "StatementRules2$Tokens" "next" "I", .fieldLink RX9 47 "StatementRules2$Tokens" "place" "I", .fieldLink RX9 40 "StatementRules2$Tokens" "type" "I", .methodLink RX9 43 yX9_byteAt, .instanceMethod yX9_byteAt, .selects RX9 yX9_byteAt yX9_byteAt, .initialized RX9, .methodLink RX9 50 yX9_isDigit, .static yX9_isDigit]
def wzX9_takeNumber : List Cond := .code yX9_takeNumber cX9_takeNumber 2 none :: (woX9_takeNumber ++ (wsX90 ++ (wzX9_byteAt ++ (wzX9_isDigit ++ []))))
theorem wgX9_takeNumber : ∀ w ∈ wzX9_takeNumber, goodWord w = true := zg_cons rfl (zg_app (zg_lit (by decide +kernel)) (zg_app wgcX9 (zg_app wgX9_byteAt (zg_app wgX9_isDigit zg_nil))))
def woX9_longSign : List Cond := []
def wzX9_longSign : List Cond := .code yX9_longSign cX9_longSign 2 (some .int) :: (woX9_longSign ++ [])
theorem wgX9_longSign : ∀ w ∈ wzX9_longSign, goodWord w = true := zg_cons rfl (zg_app (zg_lit (by decide +kernel)) zg_nil)
def woX9_isSign : List Cond := []
def wzX9_isSign : List Cond := .code yX9_isSign cX9_isSign 1 (some .boolean) :: (woX9_isSign ++ [])
theorem wgX9_isSign : ∀ w ∈ wzX9_isSign, goodWord w = true := zg_cons rfl (zg_app (zg_lit (by decide +kernel)) zg_nil)
def woX9_rowType : List Cond := [.fieldLink RX9 69 "StatementRules2$Tokens" "name" "J", .constantLong RX9 76 (255), .constantLong RX9 78 (48), .fieldLink RX9 66 "StatementRules2$Tokens" "value" "I", .constantLong RX9 84 (101), .constantLong RX9 86 (109), .constantLong RX9 88 (114), .constantLong RX9 80 (9), .constantLong RX9 82 (49), .fieldLink RX9 9 "StatementRules2$Tokens" "words" "[J"]
def wzX9_rowType : List Cond := .code yX9_rowType cX9_rowType 8 (some .int) :: (woX9_rowType ++ (wsX90 ++ []))
theorem wgX9_rowType : ∀ w ∈ wzX9_rowType, goodWord w = true := zg_cons rfl (zg_app (zg_lit (by decide +kernel)) (zg_app wgcX9 zg_nil))
def woX9_takeRow : List Cond := [.fieldLink RX9 69 "StatementRules2$Tokens" "name" "J", .fieldLink RX9 34 "StatementRules2$Tokens" "next" "I", .fieldLink RX9 47 "StatementRules2$Tokens" "place" "I", .fieldLink RX9 40 "StatementRules2$Tokens" "type" "I", .methodLink RX9 73 yX9_rowType, .instanceMethod yX9_rowType, .selects RX9 yX9_rowType yX9_rowType, .initialized RX9, .methodLink RX9 43 yX9_byteAt, .instanceMethod yX9_byteAt, .selects RX9 yX9_byteAt yX9_byteAt, .methodLink RX9 50 yX9_isDigit, .static yX9_isDigit, .methodLink RX9 57 yX9_isLetter, .static yX9_isLetter]
def wzX9_takeRow : List Cond := .code yX9_takeRow cX9_takeRow 2 none :: (woX9_takeRow ++ (wsX90 ++ (wzX9_rowType ++ (wzX9_byteAt ++ (wzX9_isDigit ++ (wzX9_isLetter ++ []))))))
theorem wgX9_takeRow : ∀ w ∈ wzX9_takeRow, goodWord w = true := zg_cons rfl (zg_app (zg_lit (by decide +kernel)) (zg_app wgcX9 (zg_app wgX9_rowType (zg_app wgX9_byteAt (zg_app wgX9_isDigit (zg_app wgX9_isLetter zg_nil))))))
def woX9_takeSign : List Cond := [.fieldLink RX9 34 "StatementRules2$Tokens" "next" "I", .fieldLink RX9 40 "StatementRules2$Tokens" "type" "I", .methodLink RX9 43 yX9_byteAt, .instanceMethod yX9_byteAt, .selects RX9 yX9_byteAt yX9_byteAt, .initialized RX9, .methodLink RX9 90 yX9_longSign, .static yX9_longSign, .methodLink RX9 94 yX9_isSign, .static yX9_isSign]
def wzX9_takeSign : List Cond := .code yX9_takeSign cX9_takeSign 2 none :: (woX9_takeSign ++ (wsX90 ++ (wzX9_byteAt ++ (wzX9_longSign ++ (wzX9_isSign ++ [])))))
theorem wgX9_takeSign : ∀ w ∈ wzX9_takeSign, goodWord w = true := zg_cons rfl (zg_app (zg_lit (by decide +kernel)) (zg_app wgcX9 (zg_app wgX9_byteAt (zg_app wgX9_longSign (zg_app wgX9_isSign zg_nil)))))
def woX9_advance : List Cond := [.fieldLink RX9 34 "StatementRules2$Tokens" "next" "I", .fieldLink RX9 47 "StatementRules2$Tokens" "place" "I", .fieldLink RX9 31 "StatementRules2$Tokens" "length" "I", .fieldLink RX9 40 "StatementRules2$Tokens" "type" "I", .methodLink RX9 43 yX9_byteAt, .instanceMethod yX9_byteAt, .selects RX9 yX9_byteAt yX9_byteAt, .initialized RX9, .methodLink RX9 50 yX9_isDigit, .static yX9_isDigit, .methodLink RX9 57 yX9_isLetter, .static yX9_isLetter, .methodLink RX9 63 yX9_takeSign, .instanceMethod yX9_takeSign, .selects RX9 yX9_takeSign yX9_takeSign, .methodLink RX9 60 yX9_takeRow, .instanceMethod yX9_takeRow, .selects RX9 yX9_takeRow yX9_takeRow, .methodLink RX9 54 yX9_takeNumber, .instanceMethod yX9_takeNumber, .selects RX9 yX9_takeNumber yX9_takeNumber]
def wzX9_advance : List Cond := .code yX9_advance cX9_advance 2 none :: (woX9_advance ++ (wsX90 ++ (wzX9_byteAt ++ (wzX9_isDigit ++ (wzX9_isLetter ++ (wzX9_takeSign ++ (wzX9_takeRow ++ (wzX9_takeNumber ++ []))))))))
theorem wgX9_advance : ∀ w ∈ wzX9_advance, goodWord w = true := zg_cons rfl (zg_app (zg_lit (by decide +kernel)) (zg_app wgcX9 (zg_app wgX9_byteAt (zg_app wgX9_isDigit (zg_app wgX9_isLetter (zg_app wgX9_takeSign (zg_app wgX9_takeRow (zg_app wgX9_takeNumber zg_nil))))))))
def woX9_start : List Cond := [.fieldLink RX9 31 "StatementRules2$Tokens" "length" "I", .fieldLink RX9 34 "StatementRules2$Tokens" "next" "I", .methodLink RX9 37 yX9_advance, .instanceMethod yX9_advance, .selects RX9 yX9_advance yX9_advance, .initialized RX9]
def wzX9_start : List Cond := .code yX9_start cX9_start 2 none :: (woX9_start ++ (wsX90 ++ (wzX9_advance ++ [])))
theorem wgX9_start : ∀ w ∈ wzX9_start, goodWord w = true := zg_cons rfl (zg_app (zg_lit (by decide +kernel)) (zg_app wgcX9 (zg_app wgX9_advance zg_nil)))
def woX9_stop : List Cond := [.fieldLink RX9 31 "StatementRules2$Tokens" "length" "I", .fieldLink RX9 34 "StatementRules2$Tokens" "next" "I", .fieldLink RX9 40 "StatementRules2$Tokens" "type" "I"]
def wzX9_stop : List Cond := .code yX9_stop cX9_stop 1 none :: (woX9_stop ++ (wsX90 ++ []))
theorem wgX9_stop : ∀ w ∈ wzX9_stop, goodWord w = true := zg_cons rfl (zg_app (zg_lit (by decide +kernel)) (zg_app wgcX9 zg_nil))
set_option maxRecDepth 20000 in
theorem hX9_takeNumber_X9_byteAt_v43 : GoodIn wzX9_takeNumber (wsV RX9 43 RX9 yX9_byteAt wzX9_byteAt) := goodIn_app (goodIn_r _ [5, 6, 7, 8] rfl (by decide +kernel)) (zg_of (fun _ h => List.mem_cons_of_mem _ (List.mem_append_right _ (List.mem_append_right _ (List.mem_append_left _ (h))))) wgX9_byteAt)
set_option maxRecDepth 20000 in
theorem hX9_takeNumber_X9_isDigit_s50 : GoodIn wzX9_takeNumber (va_wsS RX9 50 yX9_isDigit wzX9_isDigit) := goodIn_app (goodIn_r _ [9, 10, 8] rfl (by decide +kernel)) (zg_of (fun _ h => List.mem_cons_of_mem _ (List.mem_append_right _ (List.mem_append_right _ (List.mem_append_right _ (List.mem_append_left _ (h)))))) wgX9_isDigit)
set_option maxRecDepth 20000 in
theorem hX9_takeRow_X9_rowType_v73 : GoodIn wzX9_takeRow (wsV RX9 73 RX9 yX9_rowType wzX9_rowType) := goodIn_app (goodIn_r _ [5, 6, 7, 8] rfl (by decide +kernel)) (zg_of (fun _ h => List.mem_cons_of_mem _ (List.mem_append_right _ (List.mem_append_right _ (List.mem_append_left _ (h))))) wgX9_rowType)
set_option maxRecDepth 20000 in
theorem hX9_takeRow_X9_byteAt_v43 : GoodIn wzX9_takeRow (wsV RX9 43 RX9 yX9_byteAt wzX9_byteAt) := goodIn_app (goodIn_r _ [9, 10, 11, 8] rfl (by decide +kernel)) (zg_of (fun _ h => List.mem_cons_of_mem _ (List.mem_append_right _ (List.mem_append_right _ (List.mem_append_right _ (List.mem_append_left _ (h)))))) wgX9_byteAt)
set_option maxRecDepth 20000 in
theorem hX9_takeRow_X9_isDigit_s50 : GoodIn wzX9_takeRow (va_wsS RX9 50 yX9_isDigit wzX9_isDigit) := goodIn_app (goodIn_r _ [12, 13, 8] rfl (by decide +kernel)) (zg_of (fun _ h => List.mem_cons_of_mem _ (List.mem_append_right _ (List.mem_append_right _ (List.mem_append_right _ (List.mem_append_right _ (List.mem_append_left _ (h))))))) wgX9_isDigit)
set_option maxRecDepth 20000 in
theorem hX9_takeRow_X9_isLetter_s57 : GoodIn wzX9_takeRow (va_wsS RX9 57 yX9_isLetter wzX9_isLetter) := goodIn_app (goodIn_r _ [14, 15, 8] rfl (by decide +kernel)) (zg_of (fun _ h => List.mem_cons_of_mem _ (List.mem_append_right _ (List.mem_append_right _ (List.mem_append_right _ (List.mem_append_right _ (List.mem_append_right _ (List.mem_append_left _ (h)))))))) wgX9_isLetter)
set_option maxRecDepth 20000 in
theorem hX9_takeSign_X9_byteAt_v43 : GoodIn wzX9_takeSign (wsV RX9 43 RX9 yX9_byteAt wzX9_byteAt) := goodIn_app (goodIn_r _ [3, 4, 5, 6] rfl (by decide +kernel)) (zg_of (fun _ h => List.mem_cons_of_mem _ (List.mem_append_right _ (List.mem_append_right _ (List.mem_append_left _ (h))))) wgX9_byteAt)
set_option maxRecDepth 20000 in
theorem hX9_takeSign_X9_longSign_s90 : GoodIn wzX9_takeSign (va_wsS RX9 90 yX9_longSign wzX9_longSign) := goodIn_app (goodIn_r _ [7, 8, 6] rfl (by decide +kernel)) (zg_of (fun _ h => List.mem_cons_of_mem _ (List.mem_append_right _ (List.mem_append_right _ (List.mem_append_right _ (List.mem_append_left _ (h)))))) wgX9_longSign)
set_option maxRecDepth 20000 in
theorem hX9_takeSign_X9_isSign_s94 : GoodIn wzX9_takeSign (va_wsS RX9 94 yX9_isSign wzX9_isSign) := goodIn_app (goodIn_r _ [9, 10, 6] rfl (by decide +kernel)) (zg_of (fun _ h => List.mem_cons_of_mem _ (List.mem_append_right _ (List.mem_append_right _ (List.mem_append_right _ (List.mem_append_right _ (List.mem_append_left _ (h))))))) wgX9_isSign)
set_option maxRecDepth 20000 in
theorem hX9_advance_X9_byteAt_v43 : GoodIn wzX9_advance (wsV RX9 43 RX9 yX9_byteAt wzX9_byteAt) := goodIn_app (goodIn_r _ [5, 6, 7, 8] rfl (by decide +kernel)) (zg_of (fun _ h => List.mem_cons_of_mem _ (List.mem_append_right _ (List.mem_append_right _ (List.mem_append_left _ (h))))) wgX9_byteAt)
set_option maxRecDepth 20000 in
theorem hX9_advance_X9_isDigit_s50 : GoodIn wzX9_advance (va_wsS RX9 50 yX9_isDigit wzX9_isDigit) := goodIn_app (goodIn_r _ [9, 10, 8] rfl (by decide +kernel)) (zg_of (fun _ h => List.mem_cons_of_mem _ (List.mem_append_right _ (List.mem_append_right _ (List.mem_append_right _ (List.mem_append_left _ (h)))))) wgX9_isDigit)
set_option maxRecDepth 20000 in
theorem hX9_advance_X9_isLetter_s57 : GoodIn wzX9_advance (va_wsS RX9 57 yX9_isLetter wzX9_isLetter) := goodIn_app (goodIn_r _ [11, 12, 8] rfl (by decide +kernel)) (zg_of (fun _ h => List.mem_cons_of_mem _ (List.mem_append_right _ (List.mem_append_right _ (List.mem_append_right _ (List.mem_append_right _ (List.mem_append_left _ (h))))))) wgX9_isLetter)
set_option maxRecDepth 20000 in
theorem hX9_advance_X9_takeSign_v63 : GoodIn wzX9_advance (wsV RX9 63 RX9 yX9_takeSign wzX9_takeSign) := goodIn_app (goodIn_r _ [13, 14, 15, 8] rfl (by decide +kernel)) (zg_of (fun _ h => List.mem_cons_of_mem _ (List.mem_append_right _ (List.mem_append_right _ (List.mem_append_right _ (List.mem_append_right _ (List.mem_append_right _ (List.mem_append_left _ (h)))))))) wgX9_takeSign)
set_option maxRecDepth 20000 in
theorem hX9_advance_X9_takeRow_v60 : GoodIn wzX9_advance (wsV RX9 60 RX9 yX9_takeRow wzX9_takeRow) := goodIn_app (goodIn_r _ [16, 17, 18, 8] rfl (by decide +kernel)) (zg_of (fun _ h => List.mem_cons_of_mem _ (List.mem_append_right _ (List.mem_append_right _ (List.mem_append_right _ (List.mem_append_right _ (List.mem_append_right _ (List.mem_append_right _ (List.mem_append_left _ (h))))))))) wgX9_takeRow)
set_option maxRecDepth 20000 in
theorem hX9_advance_X9_takeNumber_v54 : GoodIn wzX9_advance (wsV RX9 54 RX9 yX9_takeNumber wzX9_takeNumber) := goodIn_app (goodIn_r _ [19, 20, 21, 8] rfl (by decide +kernel)) (zg_of (fun _ h => List.mem_cons_of_mem _ (List.mem_append_right _ (List.mem_append_right _ (List.mem_append_right _ (List.mem_append_right _ (List.mem_append_right _ (List.mem_append_right _ (List.mem_append_right _ (List.mem_append_left _ (h)))))))))) wgX9_takeNumber)
set_option maxRecDepth 20000 in
theorem hX9_start_X9_advance_v37 : GoodIn wzX9_start (wsV RX9 37 RX9 yX9_advance wzX9_advance) := goodIn_app (goodIn_r _ [3, 4, 5, 6] rfl (by decide +kernel)) (zg_of (fun _ h => List.mem_cons_of_mem _ (List.mem_append_right _ (List.mem_append_right _ (List.mem_append_left _ (h))))) wgX9_advance)
