/-- what the table's rows are by their names: the same as px_tok, but for classes that have natives of other names -/
def px_tk2 (m : px_M) : Prop := (plainFor m.1 = true ∧ (m.2.2.2.2.2 = [] ∨ plainName m.1.cls = true)) ∧ ∀ h ∈ m.2.2.2.2.2, h.1.2.2.2 ≠ 0 ∧ Cond.classLink m.1.cls h.1.2.2.2 h.2 ∈ px_big ∧ h.2 ∈ px_exs ∧ Cond.castable h.2 h.2 ∈ lw_tbl
theorem hk_13 : (13 : Nat) ≠ 0 ∧ Cond.classLink RL 13 "java/lang/IllegalArgumentException" ∈ px_big ∧ "java/lang/IllegalArgumentException" ∈ px_exs ∧ Cond.castable "java/lang/IllegalArgumentException" "java/lang/IllegalArgumentException" ∈ lw_tbl := ⟨by decide, (px_big_of (List.mem_append_right _ (List.mem_of_getElem? (i := 249) (by decide +kernel))) rfl), by decide, (List.mem_append_right _ (List.mem_of_getElem? (i := 500) (by decide +kernel)))⟩
theorem hk_19 : (19 : Nat) ≠ 0 ∧ Cond.classLink RL 19 "java/lang/IllegalStateException" ∈ px_big ∧ "java/lang/IllegalStateException" ∈ px_exs ∧ Cond.castable "java/lang/IllegalStateException" "java/lang/IllegalStateException" ∈ lw_tbl := ⟨by decide, (px_big_of (List.mem_append_right _ (List.mem_of_getElem? (i := 570) (by decide +kernel))) rfl), by decide, (List.mem_append_right _ (List.mem_of_getElem? (i := 582) (by decide +kernel)))⟩
theorem hk_21 : (21 : Nat) ≠ 0 ∧ Cond.classLink RL 21 "java/util/NoSuchElementException" ∈ px_big ∧ "java/util/NoSuchElementException" ∈ px_exs ∧ Cond.castable "java/util/NoSuchElementException" "java/util/NoSuchElementException" ∈ lw_tbl := ⟨by decide, (px_big_of (List.mem_append_right _ (List.mem_of_getElem? (i := 571) (by decide +kernel))) rfl), by decide, (List.mem_append_right _ (List.mem_of_getElem? (i := 601) (by decide +kernel)))⟩
theorem hk_27 : (27 : Nat) ≠ 0 ∧ Cond.classLink RL 27 "java/lang/UnsupportedOperationException" ∈ px_big ∧ "java/lang/UnsupportedOperationException" ∈ px_exs ∧ Cond.castable "java/lang/UnsupportedOperationException" "java/lang/UnsupportedOperationException" ∈ lw_tbl := ⟨by decide, (px_big_of (List.mem_append_right _ (List.mem_of_getElem? (i := 666) (by decide +kernel))) rfl), by decide, (List.mem_append_right _ (List.mem_of_getElem? (i := 677) (by decide +kernel)))⟩
theorem hk_33 : (33 : Nat) ≠ 0 ∧ Cond.classLink RL 33 "java/lang/IndexOutOfBoundsException" ∈ px_big ∧ "java/lang/IndexOutOfBoundsException" ∈ px_exs ∧ Cond.castable "java/lang/IndexOutOfBoundsException" "java/lang/IndexOutOfBoundsException" ∈ lw_tbl := ⟨by decide, (px_big_of (List.mem_append_right _ (List.mem_of_getElem? (i := 739) (by decide +kernel))) rfl), by decide, (List.mem_append_right _ (List.mem_of_getElem? (i := 750) (by decide +kernel)))⟩
theorem tk_X0_init : px_tk2 pm_X0_init := ⟨⟨plainFor_of_name (by decide), Or.inl rfl⟩, fun _ h => absurd h List.not_mem_nil⟩
theorem tk_X0_compare : px_tk2 pm_X0_compare := ⟨⟨plainFor_of_name (by decide), Or.inl rfl⟩, fun _ h => absurd h List.not_mem_nil⟩
theorem tk_X0_fillRow : px_tk2 pm_X0_fillRow := ⟨⟨plainFor_of_name (by decide), Or.inl rfl⟩, fun _ h => absurd h List.not_mem_nil⟩
theorem tk_X0_firstKind : px_tk2 pm_X0_firstKind := ⟨⟨plainFor_of_name (by decide), Or.inl rfl⟩, fun _ h => absurd h List.not_mem_nil⟩
theorem tk_X1_init : px_tk2 pm_X1_init := ⟨⟨plainFor_of_name (by decide), Or.inl rfl⟩, fun _ h => absurd h List.not_mem_nil⟩
theorem tk_X1_grow : px_tk2 pm_X1_grow := ⟨⟨plainFor_of_name (by decide), Or.inl rfl⟩, fun _ h => absurd h List.not_mem_nil⟩
theorem tk_X1_able : px_tk2 pm_X1_able := ⟨⟨plainFor_of_name (by decide), Or.inl rfl⟩, fun _ h => absurd h List.not_mem_nil⟩
theorem tk_X1_gainOf : px_tk2 pm_X1_gainOf := ⟨⟨plainFor_of_name (by decide), Or.inl rfl⟩, fun _ h => absurd h List.not_mem_nil⟩
theorem tk_X2_init : px_tk2 pm_X2_init := ⟨⟨plainFor_of_name (by decide), Or.inl rfl⟩, fun _ h => absurd h List.not_mem_nil⟩
theorem tk_X2_execute : px_tk2 pm_X2_execute := ⟨⟨plainFor_of_name (by decide), Or.inl rfl⟩, fun _ h => absurd h List.not_mem_nil⟩
theorem tk_X2_result : px_tk2 pm_X2_result := ⟨⟨plainFor_of_name (by decide), Or.inl rfl⟩, fun _ h => absurd h List.not_mem_nil⟩
theorem tk_X2_turn : px_tk2 pm_X2_turn := ⟨⟨plainFor_of_name (by decide), Or.inl rfl⟩, fun _ h => absurd h List.not_mem_nil⟩
theorem tk_X2_valueOf : px_tk2 pm_X2_valueOf := ⟨⟨plainFor_of_name (by decide), Or.inl rfl⟩, fun _ h => absurd h List.not_mem_nil⟩
theorem tk_X2_store : px_tk2 pm_X2_store := ⟨⟨plainFor_of_name (by decide), Or.inl rfl⟩, fun _ h => absurd h List.not_mem_nil⟩
theorem tk_X2_stop : px_tk2 pm_X2_stop := ⟨⟨plainFor_of_name (by decide), Or.inl rfl⟩, fun _ h => absurd h List.not_mem_nil⟩
theorem tk_X2_begin : px_tk2 pm_X2_begin := ⟨⟨plainFor_of_name (by decide), Or.inl rfl⟩, fun _ h => absurd h List.not_mem_nil⟩
theorem tk_X2_workOut : px_tk2 pm_X2_workOut := ⟨⟨plainFor_of_name (by decide), Or.inl rfl⟩, fun _ h => absurd h List.not_mem_nil⟩
theorem tk_X2_divide : px_tk2 pm_X2_divide := ⟨⟨plainFor_of_name (by decide), Or.inl rfl⟩, fun _ h => absurd h List.not_mem_nil⟩
theorem tk_X2_push : px_tk2 pm_X2_push := ⟨⟨plainFor_of_name (by decide), Or.inl rfl⟩, fun _ h => absurd h List.not_mem_nil⟩
theorem tk_X2_pop : px_tk2 pm_X2_pop := ⟨⟨plainFor_of_name (by decide), Or.inl rfl⟩, fun _ h => absurd h List.not_mem_nil⟩
theorem tk_X3_init : px_tk2 pm_X3_init := ⟨⟨plainFor_of_name (by decide), Or.inl rfl⟩, fun _ h => absurd h List.not_mem_nil⟩
theorem tk_X3_parse : px_tk2 pm_X3_parse := ⟨⟨plainFor_of_name (by decide), Or.inl rfl⟩, fun _ h => absurd h List.not_mem_nil⟩
theorem tk_X3_wrongByte : px_tk2 pm_X3_wrongByte := ⟨⟨plainFor_of_name (by decide), Or.inl rfl⟩, fun _ h => absurd h List.not_mem_nil⟩
theorem tk_X3_block : px_tk2 pm_X3_block := ⟨⟨plainFor_of_name (by decide), Or.inl rfl⟩, fun _ h => absurd h List.not_mem_nil⟩
theorem tk_X3_doing : px_tk2 pm_X3_doing := ⟨⟨plainFor_of_name (by decide), Or.inl rfl⟩, fun _ h => absurd h List.not_mem_nil⟩
theorem tk_X3_loop : px_tk2 pm_X3_loop := ⟨⟨plainFor_of_name (by decide), Or.inl rfl⟩, fun _ h => absurd h List.not_mem_nil⟩
theorem tk_X3_choice : px_tk2 pm_X3_choice := ⟨⟨plainFor_of_name (by decide), Or.inl rfl⟩, fun _ h => absurd h List.not_mem_nil⟩
theorem tk_X3_braced : px_tk2 pm_X3_braced := ⟨⟨plainFor_of_name (by decide), Or.inl rfl⟩, fun _ h => absurd h List.not_mem_nil⟩
theorem tk_X3_expression : px_tk2 pm_X3_expression := ⟨⟨plainFor_of_name (by decide), Or.inl rfl⟩, fun _ h => absurd h List.not_mem_nil⟩
theorem tk_X3_factor : px_tk2 pm_X3_factor := ⟨⟨plainFor_of_name (by decide), Or.inl rfl⟩, fun _ h => absurd h List.not_mem_nil⟩
theorem tk_X3_here : px_tk2 pm_X3_here := ⟨⟨plainFor_of_name (by decide), Or.inl rfl⟩, fun _ h => absurd h List.not_mem_nil⟩
theorem tk_X3_take : px_tk2 pm_X3_take := ⟨⟨plainFor_of_name (by decide), Or.inl rfl⟩, fun _ h => absurd h List.not_mem_nil⟩
theorem tk_X3_emit : px_tk2 pm_X3_emit := ⟨⟨plainFor_of_name (by decide), Or.inl rfl⟩, fun _ h => absurd h List.not_mem_nil⟩
theorem tk_X3_aim : px_tk2 pm_X3_aim := ⟨⟨plainFor_of_name (by decide), Or.inl rfl⟩, fun _ h => absurd h List.not_mem_nil⟩
theorem tk_X4_init : px_tk2 pm_X4_init := ⟨⟨plainFor_of_name (by decide), Or.inl rfl⟩, fun _ h => absurd h List.not_mem_nil⟩
theorem tk_X4_fewest : px_tk2 pm_X4_fewest := ⟨⟨plainFor_of_name (by decide), Or.inl rfl⟩, fun _ h => absurd h List.not_mem_nil⟩
theorem tk_X4_spread : px_tk2 pm_X4_spread := ⟨⟨plainFor_of_name (by decide), Or.inl rfl⟩, fun _ h => absurd h List.not_mem_nil⟩
theorem tk_X5_init : px_tk2 pm_X5_init := ⟨⟨plainFor_of_name (by decide), Or.inl rfl⟩, fun _ h => absurd h List.not_mem_nil⟩
theorem tk_X5_firstOfCAndD : px_tk2 pm_X5_firstOfCAndD := ⟨⟨plainFor_of_name (by decide), Or.inl rfl⟩, fun _ h => absurd h List.not_mem_nil⟩
theorem tk_X5_size : px_tk2 pm_X5_size := ⟨⟨plainFor_of_name (by decide), Or.inl rfl⟩, fun _ h => absurd h List.not_mem_nil⟩
theorem tk_X5_tokenAt : px_tk2 pm_X5_tokenAt := ⟨⟨plainFor_of_name (by decide), Or.inl rfl⟩, fun _ h => absurd h List.not_mem_nil⟩
theorem tk_X5_shapeAt : px_tk2 pm_X5_shapeAt := ⟨⟨plainFor_of_name (by decide), Or.inl rfl⟩, fun _ h => absurd h List.not_mem_nil⟩
theorem tk_X5_hasShapeOf : px_tk2 pm_X5_hasShapeOf := ⟨⟨plainFor_of_name (by decide), Or.inl rfl⟩, fun _ h => absurd h List.not_mem_nil⟩
theorem tk_X6_init : px_tk2 pm_X6_init := ⟨⟨plainFor_of_name (by decide), Or.inl rfl⟩, fun _ h => absurd h List.not_mem_nil⟩
theorem tk_X6_scan : px_tk2 pm_X6_scan := ⟨⟨plainFor_of_name (by decide), Or.inl rfl⟩, fun _ h => absurd h List.not_mem_nil⟩
theorem tk_X6_passBlanks : px_tk2 pm_X6_passBlanks := ⟨⟨plainFor_of_name (by decide), Or.inl rfl⟩, fun _ h => absurd h List.not_mem_nil⟩
theorem tk_X6_takeToken : px_tk2 pm_X6_takeToken := ⟨⟨plainFor_of_name (by decide), Or.inl rfl⟩, fun _ h => absurd h List.not_mem_nil⟩
theorem tk_X6_takeWord : px_tk2 pm_X6_takeWord := ⟨⟨plainFor_of_name (by decide), Or.inl rfl⟩, fun _ h => absurd h List.not_mem_nil⟩
theorem tk_X6_takeNumber : px_tk2 pm_X6_takeNumber := ⟨⟨plainFor_of_name (by decide), Or.inl rfl⟩, fun _ h => absurd h List.not_mem_nil⟩
theorem tk_X7_init : px_tk2 pm_X7_init := ⟨⟨plainFor_of_name (by decide), Or.inl rfl⟩, fun _ h => absurd h List.not_mem_nil⟩
theorem tk_X7_append : px_tk2 pm_X7_append := ⟨⟨plainFor_of_name (by decide), Or.inl rfl⟩, fun _ h => absurd h List.not_mem_nil⟩
theorem tk_X7_hasLetter : px_tk2 pm_X7_hasLetter := ⟨⟨plainFor_of_name (by decide), Or.inl rfl⟩, fun _ h => absurd h List.not_mem_nil⟩
theorem tk_X7_hasDigit : px_tk2 pm_X7_hasDigit := ⟨⟨plainFor_of_name (by decide), Or.inl rfl⟩, fun _ h => absurd h List.not_mem_nil⟩
theorem tk_X7_hasWord : px_tk2 pm_X7_hasWord := ⟨⟨plainFor_of_name (by decide), Or.inl rfl⟩, fun _ h => absurd h List.not_mem_nil⟩
theorem tk_X8_init : px_tk2 pm_X8_init := ⟨⟨plainFor_of_name (by decide), Or.inl rfl⟩, fun _ h => absurd h List.not_mem_nil⟩
theorem tk_X8_addWorld : px_tk2 pm_X8_addWorld := ⟨⟨plainFor_of_name (by decide), Or.inl rfl⟩, fun _ h => absurd h List.not_mem_nil⟩
theorem tk_X8_isPassedBy : px_tk2 pm_X8_isPassedBy := ⟨⟨plainFor_of_name (by decide), Or.inl rfl⟩, fun _ h => absurd h List.not_mem_nil⟩
theorem tk_X8_isOpenTo : px_tk2 pm_X8_isOpenTo := ⟨⟨plainFor_of_name (by decide), Or.inl rfl⟩, fun _ h => absurd h List.not_mem_nil⟩
theorem tk_X8_learnersPassed : px_tk2 pm_X8_learnersPassed := ⟨⟨plainFor_of_name (by decide), Or.inl rfl⟩, fun _ h => absurd h List.not_mem_nil⟩
theorem tk_X8_keepPass : px_tk2 pm_X8_keepPass := ⟨⟨plainFor_of_name (by decide), Or.inl rfl⟩, fun _ h => absurd h List.not_mem_nil⟩
theorem tk_X8_hasWayOfShape : px_tk2 pm_X8_hasWayOfShape := ⟨⟨plainFor_of_name (by decide), Or.inl rfl⟩, fun _ h => absurd h List.not_mem_nil⟩
theorem tk_X9_init : px_tk2 pm_X9_init := ⟨⟨plainFor_of_name (by decide), Or.inl rfl⟩, fun _ h => absurd h List.not_mem_nil⟩
theorem tk_X9_feed : px_tk2 pm_X9_feed := ⟨⟨plainFor_of_name (by decide), Or.inl rfl⟩, fun _ h => absurd h List.not_mem_nil⟩
theorem tk_X9_end : px_tk2 pm_X9_end := ⟨⟨plainFor_of_name (by decide), Or.inl rfl⟩, fun _ h => absurd h List.not_mem_nil⟩
theorem tk_X9_read : px_tk2 pm_X9_read := ⟨⟨plainFor_of_name (by decide), Or.inl rfl⟩, fun _ h => absurd h List.not_mem_nil⟩
theorem tk_X9_fault : px_tk2 pm_X9_fault := ⟨⟨plainFor_of_name (by decide), Or.inl rfl⟩, fun _ h => absurd h List.not_mem_nil⟩
theorem tk_X9_run : px_tk2 pm_X9_run := ⟨⟨plainFor_of_name (by decide), Or.inl rfl⟩, fun _ h => absurd h List.not_mem_nil⟩
theorem tk_X9_task : px_tk2 pm_X9_task := ⟨⟨plainFor_of_name (by decide), Or.inl rfl⟩, fun _ h => absurd h List.not_mem_nil⟩
theorem tk_X9_world : px_tk2 pm_X9_world := ⟨⟨plainFor_of_name (by decide), Or.inl rfl⟩, fun _ h => absurd h List.not_mem_nil⟩
theorem tk_X9_attempt : px_tk2 pm_X9_attempt := ⟨⟨plainFor_of_name (by decide), Or.inl rfl⟩, fun _ h => absurd h List.not_mem_nil⟩
theorem tk_X9_can : px_tk2 pm_X9_can := ⟨⟨plainFor_of_name (by decide), Or.inl rfl⟩, fun _ h => absurd h List.not_mem_nil⟩
theorem tk_X9_passed : px_tk2 pm_X9_passed := ⟨⟨plainFor_of_name (by decide), Or.inl rfl⟩, fun _ h => absurd h List.not_mem_nil⟩
theorem tk_X9_next : px_tk2 pm_X9_next := ⟨⟨plainFor_of_name (by decide), Or.inl rfl⟩, fun _ h => absurd h List.not_mem_nil⟩
theorem tk_X9_wish : px_tk2 pm_X9_wish := ⟨⟨plainFor_of_name (by decide), Or.inl rfl⟩, fun _ h => absurd h List.not_mem_nil⟩
theorem tk_X9_look : px_tk2 pm_X9_look := ⟨⟨plainFor_of_name (by decide), Or.inl rfl⟩, fun _ h => absurd h List.not_mem_nil⟩
theorem tk_X9_hint : px_tk2 pm_X9_hint := ⟨⟨plainFor_of_name (by decide), Or.inl rfl⟩, fun _ h => absurd h List.not_mem_nil⟩
theorem tk_X9_alike : px_tk2 pm_X9_alike := ⟨⟨plainFor_of_name (by decide), Or.inl rfl⟩, fun _ h => absurd h List.not_mem_nil⟩
theorem tk_X9_token : px_tk2 pm_X9_token := ⟨⟨plainFor_of_name (by decide), Or.inl rfl⟩, fun _ h => absurd h List.not_mem_nil⟩
theorem tk_X9_count : px_tk2 pm_X9_count := ⟨⟨plainFor_of_name (by decide), Or.inl rfl⟩, fun _ h => absurd h List.not_mem_nil⟩
theorem tk_X9_nearestWay : px_tk2 pm_X9_nearestWay := ⟨⟨plainFor_of_name (by decide), Or.inl rfl⟩, fun _ h => absurd h List.not_mem_nil⟩
theorem tk_X9_taskAt : px_tk2 pm_X9_taskAt := ⟨⟨plainFor_of_name (by decide), Or.inl rfl⟩, fun _ h => absurd h List.not_mem_nil⟩
theorem tk_X9_learnerAt : px_tk2 pm_X9_learnerAt := ⟨⟨plainFor_of_name (by decide), Or.inl rfl⟩, fun _ h => absurd h List.not_mem_nil⟩
theorem tk_X9_programOnSlate : px_tk2 pm_X9_programOnSlate := ⟨⟨plainFor_of_name (by decide), Or.inl rfl⟩, fun _ h => absurd h List.not_mem_nil⟩
theorem tk_X9_checkSkill : px_tk2 pm_X9_checkSkill := ⟨⟨plainFor_of_name (by decide), Or.inl rfl⟩, fun _ h => absurd h List.not_mem_nil⟩
theorem tk_X9_checkWhat : px_tk2 pm_X9_checkWhat := ⟨⟨plainFor_of_name (by decide), Or.inl rfl⟩, fun _ h => absurd h List.not_mem_nil⟩
theorem tk_X9_isSet : px_tk2 pm_X9_isSet := ⟨⟨plainFor_of_name (by decide), Or.inl rfl⟩, fun _ h => absurd h List.not_mem_nil⟩
theorem tk_X9_variableOf : px_tk2 pm_X9_variableOf := ⟨⟨plainFor_of_name (by decide), Or.inl rfl⟩, fun _ h => absurd h List.not_mem_nil⟩
theorem tk_X9_levelOf : px_tk2 pm_X9_levelOf := ⟨⟨plainFor_of_name (by decide), Or.inl rfl⟩, fun _ h => absurd h List.not_mem_nil⟩
theorem tk_X9_skillOf : px_tk2 pm_X9_skillOf := ⟨⟨plainFor_of_name (by decide), Or.inl rfl⟩, fun _ h => absurd h List.not_mem_nil⟩
theorem tk_X10_init : px_tk2 pm_X10_init := ⟨⟨plainFor_of_name (by decide), Or.inl rfl⟩, fun _ h => absurd h List.not_mem_nil⟩
theorem tk_X10_thrown : px_tk2 pm_X10_thrown := ⟨⟨plainFor_of_name (by decide), Or.inl rfl⟩, fun _ h => absurd h List.not_mem_nil⟩
theorem tk_X10_throwsIf : px_tk2 pm_X10_throwsIf := ⟨⟨plainFor_of_name (by decide), Or.inl rfl⟩, fun _ h => absurd h List.not_mem_nil⟩
theorem tk_X10_in : px_tk2 pm_X10_in := ⟨⟨plainFor_of_name (by decide), Or.inl rfl⟩, fun _ h => absurd h List.not_mem_nil⟩
theorem tk_X10_feed : px_tk2 pm_X10_feed := ⟨⟨plainFor_of_name (by decide), Or.inl rfl⟩, fun _ h => absurd h List.not_mem_nil⟩
theorem tk_X10_end : px_tk2 pm_X10_end := ⟨⟨plainFor_of_name (by decide), Or.inl rfl⟩, fun _ h => absurd h List.not_mem_nil⟩
theorem tk_X10_isAt : px_tk2 pm_X10_isAt := ⟨⟨plainFor_of_name (by decide), Or.inl rfl⟩, fun _ h => absurd h List.not_mem_nil⟩
theorem tk_X10_isWord : px_tk2 pm_X10_isWord := ⟨⟨plainFor_of_name (by decide), Or.inl rfl⟩, fun _ h => absurd h List.not_mem_nil⟩
theorem tk_X10_isVariable : px_tk2 pm_X10_isVariable := ⟨⟨plainFor_of_name (by decide), Or.inl rfl⟩, fun _ h => absurd h List.not_mem_nil⟩
theorem tk_X10_isSign : px_tk2 pm_X10_isSign := ⟨⟨plainFor_of_name (by decide), Or.inl rfl⟩, fun _ h => absurd h List.not_mem_nil⟩
theorem tk_X10_next : px_tk2 pm_X10_next := ⟨⟨plainFor_of_name (by decide), Or.inl rfl⟩, fun _ h => absurd h List.not_mem_nil⟩
theorem tk_X10_look : px_tk2 pm_X10_look := ⟨⟨plainFor_of_name (by decide), Or.inl rfl⟩, fun _ h => absurd h List.not_mem_nil⟩
theorem tk_X10_accept : px_tk2 pm_X10_accept := ⟨⟨plainFor_of_name (by decide), Or.inl rfl⟩, fun _ h => absurd h List.not_mem_nil⟩
theorem tk_X10_need : px_tk2 pm_X10_need := ⟨⟨plainFor_of_name (by decide), Or.inl rfl⟩, fun _ h => absurd h List.not_mem_nil⟩
theorem tk_X10_opens : px_tk2 pm_X10_opens := ⟨⟨plainFor_of_name (by decide), Or.inl rfl⟩, fun _ h => absurd h List.not_mem_nil⟩
theorem tk_X10_closes : px_tk2 pm_X10_closes := ⟨⟨plainFor_of_name (by decide), Or.inl rfl⟩, fun _ h => absurd h List.not_mem_nil⟩
theorem tk_X10_readBlock : px_tk2 pm_X10_readBlock := ⟨⟨plainFor_of_name (by decide), Or.inl rfl⟩, fun _ h => absurd h List.not_mem_nil⟩
theorem tk_X10_readBraces : px_tk2 pm_X10_readBraces := ⟨⟨plainFor_of_name (by decide), Or.inl rfl⟩, fun _ h => absurd h List.not_mem_nil⟩
theorem tk_X10_readDo : px_tk2 pm_X10_readDo := ⟨⟨plainFor_of_name (by decide), Or.inl rfl⟩, fun _ h => absurd h List.not_mem_nil⟩
theorem tk_X10_readExpr : px_tk2 pm_X10_readExpr := ⟨⟨plainFor_of_name (by decide), Or.inl rfl⟩, fun _ h => absurd h List.not_mem_nil⟩
theorem tk_X10_readSum : px_tk2 pm_X10_readSum := ⟨⟨plainFor_of_name (by decide), Or.inl rfl⟩, fun _ h => absurd h List.not_mem_nil⟩
theorem tk_X10_readTerm : px_tk2 pm_X10_readTerm := ⟨⟨plainFor_of_name (by decide), Or.inl rfl⟩, fun _ h => absurd h List.not_mem_nil⟩
theorem tk_X10_readFactor : px_tk2 pm_X10_readFactor := ⟨⟨plainFor_of_name (by decide), Or.inl rfl⟩, fun _ h => absurd h List.not_mem_nil⟩
theorem tk_X10_read : px_tk2 pm_X10_read := ⟨⟨plainFor_of_name (by decide), Or.inl rfl⟩, fun _ h => absurd h List.not_mem_nil⟩
theorem tk_X10_pairs : px_tk2 pm_X10_pairs := ⟨⟨plainFor_of_name (by decide), Or.inl rfl⟩, fun _ h => absurd h List.not_mem_nil⟩
theorem tk_X10_fault : px_tk2 pm_X10_fault := ⟨⟨plainFor_of_name (by decide), Or.inl rfl⟩, fun _ h => absurd h List.not_mem_nil⟩
theorem tk_X10_token : px_tk2 pm_X10_token := ⟨⟨plainFor_of_name (by decide), Or.inl rfl⟩, fun _ h => absurd h List.not_mem_nil⟩
theorem tk_X10_ends : px_tk2 pm_X10_ends := ⟨⟨plainFor_of_name (by decide), Or.inl rfl⟩, fun _ h => absurd h List.not_mem_nil⟩
theorem tk_X10_burns : px_tk2 pm_X10_burns := ⟨⟨plainFor_of_name (by decide), Or.inl rfl⟩, fun _ h => absurd h List.not_mem_nil⟩
theorem tk_X10_factor : px_tk2 pm_X10_factor := ⟨⟨plainFor_of_name (by decide), Or.inl rfl⟩, fun _ h => absurd h List.not_mem_nil⟩
theorem tk_X10_term : px_tk2 pm_X10_term := ⟨⟨plainFor_of_name (by decide), Or.inl rfl⟩, fun _ h => absurd h List.not_mem_nil⟩
theorem tk_X10_sum : px_tk2 pm_X10_sum := ⟨⟨plainFor_of_name (by decide), Or.inl rfl⟩, fun _ h => absurd h List.not_mem_nil⟩
theorem tk_X10_expr : px_tk2 pm_X10_expr := ⟨⟨plainFor_of_name (by decide), Or.inl rfl⟩, fun _ h => absurd h List.not_mem_nil⟩
theorem tk_X10_block : px_tk2 pm_X10_block := ⟨⟨plainFor_of_name (by decide), Or.inl rfl⟩, fun _ h => absurd h List.not_mem_nil⟩
theorem tk_X10_braces : px_tk2 pm_X10_braces := ⟨⟨plainFor_of_name (by decide), Or.inl rfl⟩, fun _ h => absurd h List.not_mem_nil⟩
theorem tk_X10_does : px_tk2 pm_X10_does := ⟨⟨plainFor_of_name (by decide), Or.inl rfl⟩, fun _ h => absurd h List.not_mem_nil⟩
theorem tk_X10_loops : px_tk2 pm_X10_loops := ⟨⟨plainFor_of_name (by decide), Or.inl rfl⟩, fun _ h => absurd h List.not_mem_nil⟩
theorem tk_X10_runs : px_tk2 pm_X10_runs := ⟨⟨plainFor_of_name (by decide), Or.inl rfl⟩, fun _ h => absurd h List.not_mem_nil⟩
theorem tk_X10_run : px_tk2 pm_X10_run := ⟨⟨plainFor_of_name (by decide), Or.inl rfl⟩, fun _ h => absurd h List.not_mem_nil⟩
theorem tk_X10_noTask : px_tk2 pm_X10_noTask := ⟨⟨plainFor_of_name (by decide), Or.inl rfl⟩, fun _ h => absurd h List.not_mem_nil⟩
theorem tk_X10_noLearner : px_tk2 pm_X10_noLearner := ⟨⟨plainFor_of_name (by decide), Or.inl rfl⟩, fun _ h => absurd h List.not_mem_nil⟩
theorem tk_X10_task : px_tk2 pm_X10_task := ⟨⟨plainFor_of_name (by decide), Or.inl rfl⟩, fun _ h => absurd h List.not_mem_nil⟩
theorem tk_X10_world : px_tk2 pm_X10_world := ⟨⟨plainFor_of_name (by decide), Or.inl rfl⟩, fun _ h => absurd h List.not_mem_nil⟩
theorem tk_X10_shaped : px_tk2 pm_X10_shaped := ⟨⟨plainFor_of_name (by decide), Or.inl rfl⟩, fun _ h => absurd h List.not_mem_nil⟩
theorem tk_X10_isShape : px_tk2 pm_X10_isShape := ⟨⟨plainFor_of_name (by decide), Or.inl rfl⟩, fun _ h => absurd h List.not_mem_nil⟩
theorem tk_X10_keeps : px_tk2 pm_X10_keeps := ⟨⟨plainFor_of_name (by decide), Or.inl rfl⟩, fun _ h => absurd h List.not_mem_nil⟩
theorem tk_X10_attempt : px_tk2 pm_X10_attempt := ⟨⟨plainFor_of_name (by decide), Or.inl rfl⟩, fun _ h => absurd h List.not_mem_nil⟩
theorem tk_X10_can : px_tk2 pm_X10_can := ⟨⟨plainFor_of_name (by decide), Or.inl rfl⟩, fun _ h => absurd h List.not_mem_nil⟩
theorem tk_X10_passed : px_tk2 pm_X10_passed := ⟨⟨plainFor_of_name (by decide), Or.inl rfl⟩, fun _ h => absurd h List.not_mem_nil⟩
theorem tk_X10_cans : px_tk2 pm_X10_cans := ⟨⟨plainFor_of_name (by decide), Or.inl rfl⟩, fun _ h => absurd h List.not_mem_nil⟩
theorem tk_X10_next_ : px_tk2 pm_X10_next_ := ⟨⟨plainFor_of_name (by decide), Or.inl rfl⟩, fun _ h => absurd h List.not_mem_nil⟩
theorem tk_X10_wish : px_tk2 pm_X10_wish := ⟨⟨plainFor_of_name (by decide), Or.inl rfl⟩, fun _ h => absurd h List.not_mem_nil⟩
theorem tk_X10_look_ : px_tk2 pm_X10_look_ := ⟨⟨plainFor_of_name (by decide), Or.inl rfl⟩, fun _ h => absurd h List.not_mem_nil⟩
theorem tk_X10_placeOf : px_tk2 pm_X10_placeOf := ⟨⟨plainFor_of_name (by decide), Or.inl rfl⟩, fun _ h => absurd h List.not_mem_nil⟩
theorem tk_X10_changes : px_tk2 pm_X10_changes := ⟨⟨plainFor_of_name (by decide), Or.inl rfl⟩, fun _ h => absurd h List.not_mem_nil⟩
theorem tk_X10_hints : px_tk2 pm_X10_hints := ⟨⟨plainFor_of_name (by decide), Or.inl rfl⟩, fun _ h => absurd h List.not_mem_nil⟩
theorem tk_X10_hint : px_tk2 pm_X10_hint := ⟨⟨plainFor_of_name (by decide), Or.inl rfl⟩, fun _ h => absurd h List.not_mem_nil⟩
theorem tk_X10_alike : px_tk2 pm_X10_alike := ⟨⟨plainFor_of_name (by decide), Or.inl rfl⟩, fun _ h => absurd h List.not_mem_nil⟩
theorem tk_X10_count : px_tk2 pm_X10_count := ⟨⟨plainFor_of_name (by decide), Or.inl rfl⟩, fun _ h => absurd h List.not_mem_nil⟩
theorem tk_L_read : px_tk2 pm_L_read := ⟨⟨plainFor_of_name (by decide), Or.inr (by decide)⟩, List.forall_mem_cons.mpr ⟨hk_13, fun _ h => absurd h List.not_mem_nil⟩⟩
theorem tk_L_run : px_tk2 pm_L_run := ⟨⟨plainFor_of_name (by decide), Or.inr (by decide)⟩, List.forall_mem_cons.mpr ⟨hk_19, List.forall_mem_cons.mpr ⟨hk_21, fun _ h => absurd h List.not_mem_nil⟩⟩⟩
theorem tk_L_task : px_tk2 pm_L_task := ⟨⟨plainFor_of_name (by decide), Or.inr (by decide)⟩, List.forall_mem_cons.mpr ⟨hk_13, List.forall_mem_cons.mpr ⟨hk_27, fun _ h => absurd h List.not_mem_nil⟩⟩⟩
theorem tk_L_world : px_tk2 pm_L_world := ⟨⟨plainFor_of_name (by decide), Or.inr (by decide)⟩, List.forall_mem_cons.mpr ⟨hk_33, fun _ h => absurd h List.not_mem_nil⟩⟩
theorem tk_L_attempt : px_tk2 pm_L_attempt := ⟨⟨plainFor_of_name (by decide), Or.inr (by decide)⟩, List.forall_mem_cons.mpr ⟨hk_33, List.forall_mem_cons.mpr ⟨hk_19, fun _ h => absurd h List.not_mem_nil⟩⟩⟩
theorem tk_L_can : px_tk2 pm_L_can := ⟨⟨plainFor_of_name (by decide), Or.inr (by decide)⟩, List.forall_mem_cons.mpr ⟨hk_33, fun _ h => absurd h List.not_mem_nil⟩⟩
theorem tk_L_passed : px_tk2 pm_L_passed := ⟨⟨plainFor_of_name (by decide), Or.inr (by decide)⟩, List.forall_mem_cons.mpr ⟨hk_33, fun _ h => absurd h List.not_mem_nil⟩⟩
theorem tk_L_next : px_tk2 pm_L_next := ⟨⟨plainFor_of_name (by decide), Or.inr (by decide)⟩, List.forall_mem_cons.mpr ⟨hk_33, fun _ h => absurd h List.not_mem_nil⟩⟩
theorem tk_L_wish : px_tk2 pm_L_wish := ⟨⟨plainFor_of_name (by decide), Or.inr (by decide)⟩, List.forall_mem_cons.mpr ⟨hk_33, fun _ h => absurd h List.not_mem_nil⟩⟩
theorem tk_L_look : px_tk2 pm_L_look := ⟨⟨plainFor_of_name (by decide), Or.inr (by decide)⟩, List.forall_mem_cons.mpr ⟨hk_33, List.forall_mem_cons.mpr ⟨hk_21, fun _ h => absurd h List.not_mem_nil⟩⟩⟩
theorem tk_L_hint : px_tk2 pm_L_hint := ⟨⟨plainFor_of_name (by decide), Or.inr (by decide)⟩, List.forall_mem_cons.mpr ⟨hk_33, List.forall_mem_cons.mpr ⟨hk_19, List.forall_mem_cons.mpr ⟨hk_21, fun _ h => absurd h List.not_mem_nil⟩⟩⟩⟩
theorem tk_L_alike : px_tk2 pm_L_alike := ⟨⟨plainFor_of_name (by decide), Or.inr (by decide)⟩, List.forall_mem_cons.mpr ⟨hk_33, fun _ h => absurd h List.not_mem_nil⟩⟩
theorem tk_L_law : px_tk2 pm_L_law := ⟨⟨plainFor_of_name (by decide), Or.inl rfl⟩, fun _ h => absurd h List.not_mem_nil⟩
theorem tk_J9_max_7cf53 : px_tk2 pm_J9_max_7cf53 := ⟨⟨by decide +kernel, Or.inl rfl⟩, fun _ h => absurd h List.not_mem_nil⟩
theorem tk_J9_min_7cf53 : px_tk2 pm_J9_min_7cf53 := ⟨⟨by decide +kernel, Or.inl rfl⟩, fun _ h => absurd h List.not_mem_nil⟩
theorem tk_J0_length_8abf5 : px_tk2 pm_J0_length_8abf5 := ⟨⟨plainFor_of_name (by decide), Or.inl rfl⟩, fun _ h => absurd h List.not_mem_nil⟩
theorem tk_J0_charAt_5068e : px_tk2 pm_J0_charAt_5068e := ⟨⟨plainFor_of_name (by decide), Or.inl rfl⟩, fun _ h => absurd h List.not_mem_nil⟩
theorem tk_J0_indexOf_0f7a4 : px_tk2 pm_J0_indexOf_0f7a4 := ⟨⟨plainFor_of_name (by decide), Or.inl rfl⟩, fun _ h => absurd h List.not_mem_nil⟩
theorem tk_J0_indexOf_7cf53 : px_tk2 pm_J0_indexOf_7cf53 := ⟨⟨plainFor_of_name (by decide), Or.inl rfl⟩, fun _ h => absurd h List.not_mem_nil⟩
theorem tk_J0_coder_7d493 : px_tk2 pm_J0_coder_7d493 := ⟨⟨plainFor_of_name (by decide), Or.inl rfl⟩, fun _ h => absurd h List.not_mem_nil⟩
theorem tk_J0_isLatin1_aae02 : px_tk2 pm_J0_isLatin1_aae02 := ⟨⟨plainFor_of_name (by decide), Or.inl rfl⟩, fun _ h => absurd h List.not_mem_nil⟩
theorem tk_J0_checkIndex_df160 : px_tk2 pm_J0_checkIndex_df160 := ⟨⟨plainFor_of_name (by decide), Or.inl rfl⟩, fun _ h => absurd h List.not_mem_nil⟩
theorem tk_J0_checkBoundsBeginEnd_23922 : px_tk2 pm_J0_checkBoundsBeginEnd_23922 := ⟨⟨plainFor_of_name (by decide), Or.inl rfl⟩, fun _ h => absurd h List.not_mem_nil⟩
theorem tk_J1_charAt_3b067 : px_tk2 pm_J1_charAt_3b067 := ⟨⟨plainFor_of_name (by decide), Or.inl rfl⟩, fun _ h => absurd h List.not_mem_nil⟩
theorem tk_J1_canEncode_9a6ad : px_tk2 pm_J1_canEncode_9a6ad := ⟨⟨plainFor_of_name (by decide), Or.inl rfl⟩, fun _ h => absurd h List.not_mem_nil⟩
theorem tk_J1_indexOf_4cfef : px_tk2 pm_J1_indexOf_4cfef := ⟨⟨plainFor_of_name (by decide), Or.inl rfl⟩, fun _ h => absurd h List.not_mem_nil⟩
theorem tk_J1_indexOfChar_4cfef : px_tk2 pm_J1_indexOfChar_4cfef := ⟨⟨plainFor_of_name (by decide), Or.inl rfl⟩, fun _ h => absurd h List.not_mem_nil⟩
theorem tk_J7_fill_53178 : px_tk2 pm_J7_fill_53178 := ⟨⟨plainFor_of_name (by decide), Or.inl rfl⟩, fun _ h => absurd h List.not_mem_nil⟩
theorem tk_J7_copyOf_59c91 : px_tk2 pm_J7_copyOf_59c91 := ⟨⟨plainFor_of_name (by decide), Or.inl rfl⟩, fun _ h => absurd h List.not_mem_nil⟩
theorem tk_J3_checkIndex_8e157 : px_tk2 pm_J3_checkIndex_8e157 := ⟨⟨plainFor_of_name (by decide), Or.inl rfl⟩, fun _ h => absurd h List.not_mem_nil⟩
theorem tk_J3_checkFromToIndex_8c36e : px_tk2 pm_J3_checkFromToIndex_8c36e := ⟨⟨plainFor_of_name (by decide), Or.inl rfl⟩, fun _ h => absurd h List.not_mem_nil⟩
set_option maxRecDepth 20000 in
theorem tk_all : ∀ m ∈ px_tbl, px_tk2 m := List.forall_mem_cons.mpr ⟨tk_X0_init, List.forall_mem_cons.mpr ⟨tk_X0_compare, List.forall_mem_cons.mpr ⟨tk_X0_fillRow, List.forall_mem_cons.mpr ⟨tk_X0_firstKind, List.forall_mem_cons.mpr ⟨tk_X1_init, List.forall_mem_cons.mpr ⟨tk_X1_grow, List.forall_mem_cons.mpr ⟨tk_X1_able, List.forall_mem_cons.mpr ⟨tk_X1_gainOf, List.forall_mem_cons.mpr ⟨tk_X2_init, List.forall_mem_cons.mpr ⟨tk_X2_execute, List.forall_mem_cons.mpr ⟨tk_X2_result, List.forall_mem_cons.mpr ⟨tk_X2_turn, List.forall_mem_cons.mpr ⟨tk_X2_valueOf, List.forall_mem_cons.mpr ⟨tk_X2_store, List.forall_mem_cons.mpr ⟨tk_X2_stop, List.forall_mem_cons.mpr ⟨tk_X2_begin, List.forall_mem_cons.mpr ⟨tk_X2_workOut, List.forall_mem_cons.mpr ⟨tk_X2_divide, List.forall_mem_cons.mpr ⟨tk_X2_push, List.forall_mem_cons.mpr ⟨tk_X2_pop, List.forall_mem_cons.mpr ⟨tk_X3_init, List.forall_mem_cons.mpr ⟨tk_X3_parse, List.forall_mem_cons.mpr ⟨tk_X3_wrongByte, List.forall_mem_cons.mpr ⟨tk_X3_block, List.forall_mem_cons.mpr ⟨tk_X3_doing, List.forall_mem_cons.mpr ⟨tk_X3_loop, List.forall_mem_cons.mpr ⟨tk_X3_choice, List.forall_mem_cons.mpr ⟨tk_X3_braced, List.forall_mem_cons.mpr ⟨tk_X3_expression, List.forall_mem_cons.mpr ⟨tk_X3_factor, List.forall_mem_cons.mpr ⟨tk_X3_here, List.forall_mem_cons.mpr ⟨tk_X3_take, List.forall_mem_cons.mpr ⟨tk_X3_emit, List.forall_mem_cons.mpr ⟨tk_X3_aim, List.forall_mem_cons.mpr ⟨tk_X4_init, List.forall_mem_cons.mpr ⟨tk_X4_fewest, List.forall_mem_cons.mpr ⟨tk_X4_spread, List.forall_mem_cons.mpr ⟨tk_X5_init, List.forall_mem_cons.mpr ⟨tk_X5_firstOfCAndD, List.forall_mem_cons.mpr ⟨tk_X5_size, List.forall_mem_cons.mpr ⟨tk_X5_tokenAt, List.forall_mem_cons.mpr ⟨tk_X5_shapeAt, List.forall_mem_cons.mpr ⟨tk_X5_hasShapeOf, List.forall_mem_cons.mpr ⟨tk_X6_init, List.forall_mem_cons.mpr ⟨tk_X6_scan, List.forall_mem_cons.mpr ⟨tk_X6_passBlanks, List.forall_mem_cons.mpr ⟨tk_X6_takeToken, List.forall_mem_cons.mpr ⟨tk_X6_takeWord, List.forall_mem_cons.mpr ⟨tk_X6_takeNumber, List.forall_mem_cons.mpr ⟨tk_X7_init, List.forall_mem_cons.mpr ⟨tk_X7_append, List.forall_mem_cons.mpr ⟨tk_X7_hasLetter, List.forall_mem_cons.mpr ⟨tk_X7_hasDigit, List.forall_mem_cons.mpr ⟨tk_X7_hasWord, List.forall_mem_cons.mpr ⟨tk_X8_init, List.forall_mem_cons.mpr ⟨tk_X8_addWorld, List.forall_mem_cons.mpr ⟨tk_X8_isPassedBy, List.forall_mem_cons.mpr ⟨tk_X8_isOpenTo, List.forall_mem_cons.mpr ⟨tk_X8_learnersPassed, List.forall_mem_cons.mpr ⟨tk_X8_keepPass, List.forall_mem_cons.mpr ⟨tk_X8_hasWayOfShape, List.forall_mem_cons.mpr ⟨tk_X9_init, List.forall_mem_cons.mpr ⟨tk_X9_feed, List.forall_mem_cons.mpr ⟨tk_X9_end, List.forall_mem_cons.mpr ⟨tk_X9_read, List.forall_mem_cons.mpr ⟨tk_X9_fault, List.forall_mem_cons.mpr ⟨tk_X9_run, List.forall_mem_cons.mpr ⟨tk_X9_task, List.forall_mem_cons.mpr ⟨tk_X9_world, List.forall_mem_cons.mpr ⟨tk_X9_attempt, List.forall_mem_cons.mpr ⟨tk_X9_can, List.forall_mem_cons.mpr ⟨tk_X9_passed, List.forall_mem_cons.mpr ⟨tk_X9_next, List.forall_mem_cons.mpr ⟨tk_X9_wish, List.forall_mem_cons.mpr ⟨tk_X9_look, List.forall_mem_cons.mpr ⟨tk_X9_hint, List.forall_mem_cons.mpr ⟨tk_X9_alike, List.forall_mem_cons.mpr ⟨tk_X9_token, List.forall_mem_cons.mpr ⟨tk_X9_count, List.forall_mem_cons.mpr ⟨tk_X9_nearestWay, List.forall_mem_cons.mpr ⟨tk_X9_taskAt, List.forall_mem_cons.mpr ⟨tk_X9_learnerAt, List.forall_mem_cons.mpr ⟨tk_X9_programOnSlate, List.forall_mem_cons.mpr ⟨tk_X9_checkSkill, List.forall_mem_cons.mpr ⟨tk_X9_checkWhat, List.forall_mem_cons.mpr ⟨tk_X9_isSet, List.forall_mem_cons.mpr ⟨tk_X9_variableOf, List.forall_mem_cons.mpr ⟨tk_X9_levelOf, List.forall_mem_cons.mpr ⟨tk_X9_skillOf, List.forall_mem_cons.mpr ⟨tk_X10_init, List.forall_mem_cons.mpr ⟨tk_X10_thrown, List.forall_mem_cons.mpr ⟨tk_X10_throwsIf, List.forall_mem_cons.mpr ⟨tk_X10_in, List.forall_mem_cons.mpr ⟨tk_X10_feed, List.forall_mem_cons.mpr ⟨tk_X10_end, List.forall_mem_cons.mpr ⟨tk_X10_isAt, List.forall_mem_cons.mpr ⟨tk_X10_isWord, List.forall_mem_cons.mpr ⟨tk_X10_isVariable, List.forall_mem_cons.mpr ⟨tk_X10_isSign, List.forall_mem_cons.mpr ⟨tk_X10_next, List.forall_mem_cons.mpr ⟨tk_X10_look, List.forall_mem_cons.mpr ⟨tk_X10_accept, List.forall_mem_cons.mpr ⟨tk_X10_need, List.forall_mem_cons.mpr ⟨tk_X10_opens, List.forall_mem_cons.mpr ⟨tk_X10_closes, List.forall_mem_cons.mpr ⟨tk_X10_readBlock, List.forall_mem_cons.mpr ⟨tk_X10_readBraces, List.forall_mem_cons.mpr ⟨tk_X10_readDo, List.forall_mem_cons.mpr ⟨tk_X10_readExpr, List.forall_mem_cons.mpr ⟨tk_X10_readSum, List.forall_mem_cons.mpr ⟨tk_X10_readTerm, List.forall_mem_cons.mpr ⟨tk_X10_readFactor, List.forall_mem_cons.mpr ⟨tk_X10_read, List.forall_mem_cons.mpr ⟨tk_X10_pairs, List.forall_mem_cons.mpr ⟨tk_X10_fault, List.forall_mem_cons.mpr ⟨tk_X10_token, List.forall_mem_cons.mpr ⟨tk_X10_ends, List.forall_mem_cons.mpr ⟨tk_X10_burns, List.forall_mem_cons.mpr ⟨tk_X10_factor, List.forall_mem_cons.mpr ⟨tk_X10_term, List.forall_mem_cons.mpr ⟨tk_X10_sum, List.forall_mem_cons.mpr ⟨tk_X10_expr, List.forall_mem_cons.mpr ⟨tk_X10_block, List.forall_mem_cons.mpr ⟨tk_X10_braces, List.forall_mem_cons.mpr ⟨tk_X10_does, List.forall_mem_cons.mpr ⟨tk_X10_loops, List.forall_mem_cons.mpr ⟨tk_X10_runs, List.forall_mem_cons.mpr ⟨tk_X10_run, List.forall_mem_cons.mpr ⟨tk_X10_noTask, List.forall_mem_cons.mpr ⟨tk_X10_noLearner, List.forall_mem_cons.mpr ⟨tk_X10_task, List.forall_mem_cons.mpr ⟨tk_X10_world, List.forall_mem_cons.mpr ⟨tk_X10_shaped, List.forall_mem_cons.mpr ⟨tk_X10_isShape, List.forall_mem_cons.mpr ⟨tk_X10_keeps, List.forall_mem_cons.mpr ⟨tk_X10_attempt, List.forall_mem_cons.mpr ⟨tk_X10_can, List.forall_mem_cons.mpr ⟨tk_X10_passed, List.forall_mem_cons.mpr ⟨tk_X10_cans, List.forall_mem_cons.mpr ⟨tk_X10_next_, List.forall_mem_cons.mpr ⟨tk_X10_wish, List.forall_mem_cons.mpr ⟨tk_X10_look_, List.forall_mem_cons.mpr ⟨tk_X10_placeOf, List.forall_mem_cons.mpr ⟨tk_X10_changes, List.forall_mem_cons.mpr ⟨tk_X10_hints, List.forall_mem_cons.mpr ⟨tk_X10_hint, List.forall_mem_cons.mpr ⟨tk_X10_alike, List.forall_mem_cons.mpr ⟨tk_X10_count, List.forall_mem_cons.mpr ⟨tk_L_read, List.forall_mem_cons.mpr ⟨tk_L_run, List.forall_mem_cons.mpr ⟨tk_L_task, List.forall_mem_cons.mpr ⟨tk_L_world, List.forall_mem_cons.mpr ⟨tk_L_attempt, List.forall_mem_cons.mpr ⟨tk_L_can, List.forall_mem_cons.mpr ⟨tk_L_passed, List.forall_mem_cons.mpr ⟨tk_L_next, List.forall_mem_cons.mpr ⟨tk_L_wish, List.forall_mem_cons.mpr ⟨tk_L_look, List.forall_mem_cons.mpr ⟨tk_L_hint, List.forall_mem_cons.mpr ⟨tk_L_alike, List.forall_mem_cons.mpr ⟨tk_L_law, List.forall_mem_cons.mpr ⟨tk_J9_max_7cf53, List.forall_mem_cons.mpr ⟨tk_J9_min_7cf53, List.forall_mem_cons.mpr ⟨tk_J0_length_8abf5, List.forall_mem_cons.mpr ⟨tk_J0_charAt_5068e, List.forall_mem_cons.mpr ⟨tk_J0_indexOf_0f7a4, List.forall_mem_cons.mpr ⟨tk_J0_indexOf_7cf53, List.forall_mem_cons.mpr ⟨tk_J0_coder_7d493, List.forall_mem_cons.mpr ⟨tk_J0_isLatin1_aae02, List.forall_mem_cons.mpr ⟨tk_J0_checkIndex_df160, List.forall_mem_cons.mpr ⟨tk_J0_checkBoundsBeginEnd_23922, List.forall_mem_cons.mpr ⟨tk_J1_charAt_3b067, List.forall_mem_cons.mpr ⟨tk_J1_canEncode_9a6ad, List.forall_mem_cons.mpr ⟨tk_J1_indexOf_4cfef, List.forall_mem_cons.mpr ⟨tk_J1_indexOfChar_4cfef, List.forall_mem_cons.mpr ⟨tk_J7_fill_53178, List.forall_mem_cons.mpr ⟨tk_J7_copyOf_59c91, List.forall_mem_cons.mpr ⟨tk_J3_checkIndex_8e157, List.forall_mem_cons.mpr ⟨tk_J3_checkFromToIndex_8c36e, fun _ h => absurd h List.not_mem_nil⟩⟩⟩⟩⟩⟩⟩⟩⟩⟩⟩⟩⟩⟩⟩⟩⟩⟩⟩⟩⟩⟩⟩⟩⟩⟩⟩⟩⟩⟩⟩⟩⟩⟩⟩⟩⟩⟩⟩⟩⟩⟩⟩⟩⟩⟩⟩⟩⟩⟩⟩⟩⟩⟩⟩⟩⟩⟩⟩⟩⟩⟩⟩⟩⟩⟩⟩⟩⟩⟩⟩⟩⟩⟩⟩⟩⟩⟩⟩⟩⟩⟩⟩⟩⟩⟩⟩⟩⟩⟩⟩⟩⟩⟩⟩⟩⟩⟩⟩⟩⟩⟩⟩⟩⟩⟩⟩⟩⟩⟩⟩⟩⟩⟩⟩⟩⟩⟩⟩⟩⟩⟩⟩⟩⟩⟩⟩⟩⟩⟩⟩⟩⟩⟩⟩⟩⟩⟩⟩⟩⟩⟩⟩⟩⟩⟩⟩⟩⟩⟩⟩⟩⟩⟩⟩⟩⟩⟩⟩⟩⟩⟩⟩⟩⟩⟩⟩⟩⟩⟩⟩⟩⟩⟩⟩⟩⟩⟩⟩
theorem tk_tb (k : Nat) (m : px_M) (h : px_tb k = some m) : px_tk2 m := tk_all m (List.mem_of_getElem? h)
def srL : List (String × Nat × String) := [("PracticeGround$Scanner", 63, "while"), ("PracticeGround$Scanner", 69, "if"), ("PracticeGround$Scanner", 71, "else"), ("PracticeGround$Scanner", 52, "=<+-*/%(){};"), ("PracticeGround", 78, "the text is wrong"), ("PracticeGround", 248, "there is nothing on the slate"), ("PracticeGround", 255, "no such what"), ("PracticeGround", 122, "no set of skills"), ("PracticeGround", 129, "there are 10 tasks"), ("PracticeGround", 241, "no such task"), ("PracticeGround", 244, "no such learner"), ("PracticeGround", 251, "no such skill"), ("PracticeGroundModel", 121, "while"), ("PracticeGroundModel", 127, "if"), ("PracticeGroundModel", 129, "else")]
def srK : Cond → Bool
  | .stringRef own idx tx => decide ((own, idx, tx) ∈ srL)
  | _ => true
theorem sr_all : lw_tbl.all srK = true := by decide +kernel
theorem sr_mem {own tx : String} {idx : Nat} (h : Cond.stringRef own idx tx ∈ lw_tbl) : (own, idx, tx) ∈ srL := of_decide_eq_true (show srK (.stringRef own idx tx) = true from List.all_eq_true.mp sr_all _ h)
def px_ldl : List (String × Nat × Nat) := [(RX6, 52, 0), (RX6, 63, 1), (RX6, 69, 2), (RX6, 71, 3), (RX10, 121, 1), (RX10, 127, 2), (RX10, 129, 3)]
theorem lds_no {own : String} {idx i : Nat} (h : px_lds own idx i) (hn : (own, idx) ∉ px_ldl.map (fun q => (q.1, q.2.1))) : False := hn (List.mem_map.mpr ⟨_, h, rfl⟩)
theorem lds_i {own : String} {idx i j : Nat} (h : px_lds own idx i) (hn : ∀ q ∈ px_ldl, (q.1, q.2.1) = (own, idx) → q.2.2 = j) : i = j := hn _ h rfl
def tmS (i : Nat) : Term := match i with
  | 0 => .string "PracticeGround$Scanner" 52
  | 1 => .string "PracticeGround$Scanner" 63
  | 2 => .string "PracticeGround$Scanner" 69
  | _ => .string "PracticeGround$Scanner" 71
/-- the array classes of the room -/
theorem ac_of {args : Array Value} {s : State} (hts : ∀ w ∈ lw_tbl, w.before args s = true) : ∃ cy : Nat → ClassId, ∀ (k : Nat) (q : ClassId × FieldType), (px_tys cy)[k]? = some q → ArrOfT s q.1 q.2 ∧ va_RA s q.1 q.2 := by
  have prim : ∀ ty : FieldType, (∀ C, ty ≠ .object C) → (Cond.arrayClass ty).before args s = true → ∃ c, ArrOfT s c ty ∧ va_RA s c ty := fun ty hty h => by
    obtain ⟨c, k, comp, h1, h2, h3⟩ := Cond.arrayClass_spec h
    refine ⟨c, fun n z => ⟨fun k h => (by cases h), k, h2, comp, h3⟩, ?_⟩
    unfold va_RA
    split
    · exact absurd rfl (hty _)
    · exact h1
  have ob : ∀ C : String, (Cond.arrayOver (.object C)).before args s = true → ∃ c, ArrOfT s c (.object C) ∧ va_RA s c (.object C) := fun C h => by
    obtain ⟨comp, c, k, h1, _, h3, h4, h5⟩ := Cond.arrayOver_spec h
    exact ⟨c, fun n z => ⟨fun k h => (by cases h), k, h3, comp, h4⟩, k, comp, h3, h4, h1, h5⟩
  obtain ⟨c0, h0⟩ := prim .int (by intro C z; cases z) (hts _ (List.mem_append_right _ (List.mem_of_getElem? (i := 52) (by decide +kernel))))
  obtain ⟨c1, h1⟩ := prim .byte (by intro C z; cases z) (hts _ (List.mem_append_right _ (List.mem_of_getElem? (i := 493) (by decide +kernel))))
  obtain ⟨c2, h2⟩ := prim .boolean (by intro C z; cases z) (hts _ (List.mem_append_right _ (List.mem_of_getElem? (i := 1043) (by decide +kernel))))
  obtain ⟨c3, h3⟩ := prim .long (by intro C z; cases z) (hts _ (List.mem_append_right _ (List.mem_of_getElem? (i := 1276) (by decide +kernel))))
  obtain ⟨c4, h4⟩ := ob RX1 (hts _ (List.mem_append_right _ (List.mem_of_getElem? (i := 162) (by decide +kernel))))
  obtain ⟨c5, h5⟩ := ob RX5 (hts _ (List.mem_append_right _ (List.mem_of_getElem? (i := 697) (by decide +kernel))))
  obtain ⟨c6, h6⟩ := ob RX8 (hts _ (List.mem_append_right _ (List.mem_of_getElem? (i := 160) (by decide +kernel))))
  obtain ⟨comp, c7, k7, a1, _, a2, a3, a4⟩ := arrayOverA_spec (hts (.arrayOver (.array .int)) (List.mem_append_right _ (List.mem_of_getElem? (i := 136) (by decide +kernel))))
  refine ⟨fun i => match i with | 0 => c0 | 1 => c1 | 2 => c2 | 3 => c3 | 4 => c4 | 5 => c5 | 6 => c6 | _ => c7, fun k q hq => ?_⟩
  match k, hq with
  | 0, hq => cases hq; exact h0
  | 1, hq => cases hq; exact h1
  | 2, hq => cases hq; exact h2
  | 3, hq => cases hq; exact h3
  | 4, hq => cases hq; exact h4
  | 5, hq => cases hq; exact h5
  | 6, hq => cases hq; exact h6
  | 7, hq => cases hq; exact ⟨fun n z => ⟨fun k h => (by cases h), k7, a2, comp, a3⟩, a4⟩
  | k + 8, hq => simp [px_tys] at hq
theorem kn_of {args : Array Value} {s : State} (hts : ∀ w ∈ lw_tbl, w.before args s = true) : ∃ D : va_G, ∀ (k : Nat) (q : vw_C), vwCl[k]? = some q → u_Kn s q.1 q.2.1 q.2.2 (D.1 k) (D.2 k) := by
  have hb : ∀ {w : Cond}, w ∈ px_big → w ∈ lw_tbl := fun h => (List.mem_filter.mp h).1
  obtain ⟨c0, i0, k0⟩ := u_known (C := RX0) (T := TX0) (N := 3) (n := 3) hts (fun w h => hb (hw_X0 w h)) (hts (.instantiable RX0 3) (List.mem_append_right _ (List.mem_of_getElem? (i := 130) (by decide +kernel))))
  obtain ⟨c1, i1, k1⟩ := u_known (C := RX1) (T := TX1) (N := 1) (n := 1) hts (fun w h => hb (hw_X1 w h)) (hts (.instantiable RX1 1) (List.mem_append_right _ (List.mem_of_getElem? (i := 163) (by decide +kernel))))
  obtain ⟨c2, i2, k2⟩ := u_known (C := RX2) (T := TX2) (N := 7) (n := 7) hts (fun w h => hb (hw_X2 w h)) (hts (.instantiable RX2 7) (List.mem_append_right _ (List.mem_of_getElem? (i := 99) (by decide +kernel))))
  obtain ⟨c3, i3, k3⟩ := u_known (C := RX3) (T := TX3) (N := 5) (n := 5) hts (fun w h => hb (hw_X3 w h)) (hts (.instantiable RX3 5) (List.mem_append_right _ (List.mem_of_getElem? (i := 54) (by decide +kernel))))
  obtain ⟨c4, i4, k4⟩ := u_known (C := RX4) (T := TX4) (N := 1) (n := 1) hts (fun w h => hb (hw_X4 w h)) (hts (.instantiable RX4 1) (List.mem_append_right _ (List.mem_of_getElem? (i := 150) (by decide +kernel))))
  obtain ⟨c5, i5, k5⟩ := u_known (C := RX5) (T := TX5) (N := 4) (n := 4) hts (fun w h => hb (hw_X5 w h)) (hts (.instantiable RX5 4) (List.mem_append_right _ (List.mem_of_getElem? (i := 236) (by decide +kernel))))
  obtain ⟨c6, i6, k6⟩ := u_known (C := RX6) (T := TX6) (N := 4) (n := 4) hts (fun w h => hb (hw_X6 w h)) (hts (.instantiable RX6 4) (List.mem_append_right _ (List.mem_of_getElem? (i := 60) (by decide +kernel))))
  obtain ⟨c7, i7, k7⟩ := u_known (C := RX7) (T := TX7) (N := 2) (n := 2) hts (fun w h => hb (hw_X7 w h)) (hts (.instantiable RX7 2) (List.mem_append_right _ (List.mem_of_getElem? (i := 37) (by decide +kernel))))
  obtain ⟨c8, i8, k8⟩ := u_known (C := RX8) (T := TX8) (N := 9) (n := 9) hts (fun w h => hb (hw_X8 w h)) (hts (.instantiable RX8 9) (List.mem_append_right _ (List.mem_of_getElem? (i := 691) (by decide +kernel))))
  obtain ⟨c9, i9, k9⟩ := u_known (C := RX9) (T := TX9) (N := 13) (n := 13) hts (fun w h => hb (hw_X9 w h)) (hts (.instantiable RX9 13) (List.mem_append_right _ (List.mem_of_getElem? (i := 29) (by decide +kernel))))
  obtain ⟨c10, i10, k10⟩ := u_known (C := RX10) (T := TX10) (N := 44) (n := 44) hts (fun w h => hb (hw_X10 w h)) (hts (.instantiable RX10 44) (List.mem_append_right _ (List.mem_of_getElem? (i := 905) (by decide +kernel))))
  refine ⟨(fun k => match k with | 0 => c0 | 1 => c1 | 2 => c2 | 3 => c3 | 4 => c4 | 5 => c5 | 6 => c6 | 7 => c7 | 8 => c8 | 9 => c9 | _ => c10, fun k => match k with | 0 => i0 | 1 => i1 | 2 => i2 | 3 => i3 | 4 => i4 | 5 => i5 | 6 => i6 | 7 => i7 | 8 => i8 | 9 => i9 | _ => i10), fun k q hq => ?_⟩
  match k, hq with
  | 0, hq => cases hq; exact k0
  | 1, hq => cases hq; exact k1
  | 2, hq => cases hq; exact k2
  | 3, hq => cases hq; exact k3
  | 4, hq => cases hq; exact k4
  | 5, hq => cases hq; exact k5
  | 6, hq => cases hq; exact k6
  | 7, hq => cases hq; exact k7
  | 8, hq => cases hq; exact k8
  | 9, hq => cases hq; exact k9
  | 10, hq => cases hq; exact k10
  | k + 11, hq => simp [vwCl] at hq
set_option maxHeartbeats 4000000 in
set_option maxRecDepth 20000 in
theorem nc_of {args : Array Value} {s : State} (hg : (Jvm.Cond.and given_1 narrow_1).before args s = true) : ∀ E ∈ px_exs, ∀ E' ∈ px_exs, E ≠ E' → va_Nc E E' s := by
  have hs := flat_of_before _ hg
  have e01 : va_Nc "java/lang/IllegalArgumentException" "java/lang/IllegalStateException" s := va_Nc.of (hs (.not (.castable "java/lang/IllegalArgumentException" "java/lang/IllegalStateException")) (by decide +kernel))
  have e02 : va_Nc "java/lang/IllegalArgumentException" "java/lang/IndexOutOfBoundsException" s := va_Nc.of (hs (.not (.castable "java/lang/IllegalArgumentException" "java/lang/IndexOutOfBoundsException")) (by decide +kernel))
  have e03 : va_Nc "java/lang/IllegalArgumentException" "java/lang/UnsupportedOperationException" s := va_Nc.of (hs (.not (.castable "java/lang/IllegalArgumentException" "java/lang/UnsupportedOperationException")) (by decide +kernel))
  have e04 : va_Nc "java/lang/IllegalArgumentException" "java/util/NoSuchElementException" s := va_Nc.of (hs (.not (.castable "java/lang/IllegalArgumentException" "java/util/NoSuchElementException")) (by decide +kernel))
  have e10 : va_Nc "java/lang/IllegalStateException" "java/lang/IllegalArgumentException" s := va_Nc.of (hs (.not (.castable "java/lang/IllegalStateException" "java/lang/IllegalArgumentException")) (by decide +kernel))
  have e12 : va_Nc "java/lang/IllegalStateException" "java/lang/IndexOutOfBoundsException" s := va_Nc.of (hs (.not (.castable "java/lang/IllegalStateException" "java/lang/IndexOutOfBoundsException")) (by decide +kernel))
  have e13 : va_Nc "java/lang/IllegalStateException" "java/lang/UnsupportedOperationException" s := va_Nc.of (hs (.not (.castable "java/lang/IllegalStateException" "java/lang/UnsupportedOperationException")) (by decide +kernel))
  have e14 : va_Nc "java/lang/IllegalStateException" "java/util/NoSuchElementException" s := va_Nc.of (hs (.not (.castable "java/lang/IllegalStateException" "java/util/NoSuchElementException")) (by decide +kernel))
  have e20 : va_Nc "java/lang/IndexOutOfBoundsException" "java/lang/IllegalArgumentException" s := va_Nc.of (hs (.not (.castable "java/lang/IndexOutOfBoundsException" "java/lang/IllegalArgumentException")) (by decide +kernel))
  have e21 : va_Nc "java/lang/IndexOutOfBoundsException" "java/lang/IllegalStateException" s := va_Nc.of (hs (.not (.castable "java/lang/IndexOutOfBoundsException" "java/lang/IllegalStateException")) (by decide +kernel))
  have e23 : va_Nc "java/lang/IndexOutOfBoundsException" "java/lang/UnsupportedOperationException" s := va_Nc.of (hs (.not (.castable "java/lang/IndexOutOfBoundsException" "java/lang/UnsupportedOperationException")) (by decide +kernel))
  have e24 : va_Nc "java/lang/IndexOutOfBoundsException" "java/util/NoSuchElementException" s := va_Nc.of (hs (.not (.castable "java/lang/IndexOutOfBoundsException" "java/util/NoSuchElementException")) (by decide +kernel))
  have e30 : va_Nc "java/lang/UnsupportedOperationException" "java/lang/IllegalArgumentException" s := va_Nc.of (hs (.not (.castable "java/lang/UnsupportedOperationException" "java/lang/IllegalArgumentException")) (by decide +kernel))
  have e31 : va_Nc "java/lang/UnsupportedOperationException" "java/lang/IllegalStateException" s := va_Nc.of (hs (.not (.castable "java/lang/UnsupportedOperationException" "java/lang/IllegalStateException")) (by decide +kernel))
  have e32 : va_Nc "java/lang/UnsupportedOperationException" "java/lang/IndexOutOfBoundsException" s := va_Nc.of (hs (.not (.castable "java/lang/UnsupportedOperationException" "java/lang/IndexOutOfBoundsException")) (by decide +kernel))
  have e34 : va_Nc "java/lang/UnsupportedOperationException" "java/util/NoSuchElementException" s := va_Nc.of (hs (.not (.castable "java/lang/UnsupportedOperationException" "java/util/NoSuchElementException")) (by decide +kernel))
  have e40 : va_Nc "java/util/NoSuchElementException" "java/lang/IllegalArgumentException" s := va_Nc.of (hs (.not (.castable "java/util/NoSuchElementException" "java/lang/IllegalArgumentException")) (by decide +kernel))
  have e41 : va_Nc "java/util/NoSuchElementException" "java/lang/IllegalStateException" s := va_Nc.of (hs (.not (.castable "java/util/NoSuchElementException" "java/lang/IllegalStateException")) (by decide +kernel))
  have e42 : va_Nc "java/util/NoSuchElementException" "java/lang/IndexOutOfBoundsException" s := va_Nc.of (hs (.not (.castable "java/util/NoSuchElementException" "java/lang/IndexOutOfBoundsException")) (by decide +kernel))
  have e43 : va_Nc "java/util/NoSuchElementException" "java/lang/UnsupportedOperationException" s := va_Nc.of (hs (.not (.castable "java/util/NoSuchElementException" "java/lang/UnsupportedOperationException")) (by decide +kernel))
  refine List.forall_mem_cons.mpr ⟨?_, List.forall_mem_cons.mpr ⟨?_, List.forall_mem_cons.mpr ⟨?_, List.forall_mem_cons.mpr ⟨?_, List.forall_mem_cons.mpr ⟨?_, fun _ h => absurd h List.not_mem_nil⟩⟩⟩⟩⟩
  · exact List.forall_mem_cons.mpr ⟨fun z => absurd rfl z, List.forall_mem_cons.mpr ⟨fun _ => e01, List.forall_mem_cons.mpr ⟨fun _ => e02, List.forall_mem_cons.mpr ⟨fun _ => e03, List.forall_mem_cons.mpr ⟨fun _ => e04, fun _ h => absurd h List.not_mem_nil⟩⟩⟩⟩⟩
  · exact List.forall_mem_cons.mpr ⟨fun _ => e10, List.forall_mem_cons.mpr ⟨fun z => absurd rfl z, List.forall_mem_cons.mpr ⟨fun _ => e12, List.forall_mem_cons.mpr ⟨fun _ => e13, List.forall_mem_cons.mpr ⟨fun _ => e14, fun _ h => absurd h List.not_mem_nil⟩⟩⟩⟩⟩
  · exact List.forall_mem_cons.mpr ⟨fun _ => e20, List.forall_mem_cons.mpr ⟨fun _ => e21, List.forall_mem_cons.mpr ⟨fun z => absurd rfl z, List.forall_mem_cons.mpr ⟨fun _ => e23, List.forall_mem_cons.mpr ⟨fun _ => e24, fun _ h => absurd h List.not_mem_nil⟩⟩⟩⟩⟩
  · exact List.forall_mem_cons.mpr ⟨fun _ => e30, List.forall_mem_cons.mpr ⟨fun _ => e31, List.forall_mem_cons.mpr ⟨fun _ => e32, List.forall_mem_cons.mpr ⟨fun z => absurd rfl z, List.forall_mem_cons.mpr ⟨fun _ => e34, fun _ h => absurd h List.not_mem_nil⟩⟩⟩⟩⟩
  · exact List.forall_mem_cons.mpr ⟨fun _ => e40, List.forall_mem_cons.mpr ⟨fun _ => e41, List.forall_mem_cons.mpr ⟨fun _ => e42, List.forall_mem_cons.mpr ⟨fun _ => e43, List.forall_mem_cons.mpr ⟨fun z => absurd rfl z, fun _ h => absurd h List.not_mem_nil⟩⟩⟩⟩⟩
set_option maxHeartbeats 4000000 in
set_option maxRecDepth 20000 in
theorem st_of {args : Array Value} {s : State} (hg : (Jvm.Cond.and given_1 narrow_1).before args s = true) {A : Nat → Prop} (hA : ∀ a : Nat, a < s.heap.size → ¬ A a) : ∃ adK adV : Nat → Nat, vk_S 4 px_len px_byt adK adV A s s.heap ∧ ∀ i : Nat, i < 4 → (tmS i).eval args s none [] s = some (.ref (adK i)) := by
  have hs := flat_of_before _ hg
  refine vk_Sof (tm := tmS) (fun i hi => ?_) (fun i hi => ?_) (fun i hi => ?_) (fun i hi => ?_) (fun i hi => ?_) (fun i hi j hj => ?_) (fun i j hi hj hne => ?_) hA
  · match i, hi with
    | 0, _ => decide
    | 1, _ => decide
    | 2, _ => decide
    | 3, _ => decide
  · match i, hi with
    | 0, _ => exact hs (.exactly (.string "PracticeGround$Scanner" 52) "java/lang/String") (by decide +kernel)
    | 1, _ => exact hs (.exactly (.string "PracticeGround$Scanner" 63) "java/lang/String") (by decide +kernel)
    | 2, _ => exact hs (.exactly (.string "PracticeGround$Scanner" 69) "java/lang/String") (by decide +kernel)
    | 3, _ => exact hs (.exactly (.string "PracticeGround$Scanner" 71) "java/lang/String") (by decide +kernel)
  · match i, hi with
    | 0, _ => exact hs (.eq (.field (.string "PracticeGround$Scanner" 52) "java/lang/String" "coder" "B") (.int 0)) (by decide +kernel)
    | 1, _ => exact hs (.eq (.field (.string "PracticeGround$Scanner" 63) "java/lang/String" "coder" "B") (.int 0)) (by decide +kernel)
    | 2, _ => exact hs (.eq (.field (.string "PracticeGround$Scanner" 69) "java/lang/String" "coder" "B") (.int 0)) (by decide +kernel)
    | 3, _ => exact hs (.eq (.field (.string "PracticeGround$Scanner" 71) "java/lang/String" "coder" "B") (.int 0)) (by decide +kernel)
  · match i, hi with
    | 0, _ => exact hs (.arrayOf (.field (.string "PracticeGround$Scanner" 52) "java/lang/String" "value" "[B") .byte) (by decide +kernel)
    | 1, _ => exact hs (.arrayOf (.field (.string "PracticeGround$Scanner" 63) "java/lang/String" "value" "[B") .byte) (by decide +kernel)
    | 2, _ => exact hs (.arrayOf (.field (.string "PracticeGround$Scanner" 69) "java/lang/String" "value" "[B") .byte) (by decide +kernel)
    | 3, _ => exact hs (.arrayOf (.field (.string "PracticeGround$Scanner" 71) "java/lang/String" "value" "[B") .byte) (by decide +kernel)
  · match i, hi with
    | 0, _ => exact hs (.eq (.length (.field (.string "PracticeGround$Scanner" 52) "java/lang/String" "value" "[B")) (.int 12)) (by decide +kernel)
    | 1, _ => exact hs (.eq (.length (.field (.string "PracticeGround$Scanner" 63) "java/lang/String" "value" "[B")) (.int 5)) (by decide +kernel)
    | 2, _ => exact hs (.eq (.length (.field (.string "PracticeGround$Scanner" 69) "java/lang/String" "value" "[B")) (.int 2)) (by decide +kernel)
    | 3, _ => exact hs (.eq (.length (.field (.string "PracticeGround$Scanner" 71) "java/lang/String" "value" "[B")) (.int 4)) (by decide +kernel)
  · match i, hi with
    | 0, _ =>
      have hj2 : j < 12 := hj
      match j, hj2 with
      | 0, _ => exact hs (.eq (.elem (.field (.string "PracticeGround$Scanner" 52) "java/lang/String" "value" "[B") (.int 0)) (.int 61)) (by decide +kernel)
      | 1, _ => exact hs (.eq (.elem (.field (.string "PracticeGround$Scanner" 52) "java/lang/String" "value" "[B") (.int 1)) (.int 60)) (by decide +kernel)
      | 2, _ => exact hs (.eq (.elem (.field (.string "PracticeGround$Scanner" 52) "java/lang/String" "value" "[B") (.int 2)) (.int 43)) (by decide +kernel)
      | 3, _ => exact hs (.eq (.elem (.field (.string "PracticeGround$Scanner" 52) "java/lang/String" "value" "[B") (.int 3)) (.int 45)) (by decide +kernel)
      | 4, _ => exact hs (.eq (.elem (.field (.string "PracticeGround$Scanner" 52) "java/lang/String" "value" "[B") (.int 4)) (.int 42)) (by decide +kernel)
      | 5, _ => exact hs (.eq (.elem (.field (.string "PracticeGround$Scanner" 52) "java/lang/String" "value" "[B") (.int 5)) (.int 47)) (by decide +kernel)
      | 6, _ => exact hs (.eq (.elem (.field (.string "PracticeGround$Scanner" 52) "java/lang/String" "value" "[B") (.int 6)) (.int 37)) (by decide +kernel)
      | 7, _ => exact hs (.eq (.elem (.field (.string "PracticeGround$Scanner" 52) "java/lang/String" "value" "[B") (.int 7)) (.int 40)) (by decide +kernel)
      | 8, _ => exact hs (.eq (.elem (.field (.string "PracticeGround$Scanner" 52) "java/lang/String" "value" "[B") (.int 8)) (.int 41)) (by decide +kernel)
      | 9, _ => exact hs (.eq (.elem (.field (.string "PracticeGround$Scanner" 52) "java/lang/String" "value" "[B") (.int 9)) (.int 123)) (by decide +kernel)
      | 10, _ => exact hs (.eq (.elem (.field (.string "PracticeGround$Scanner" 52) "java/lang/String" "value" "[B") (.int 10)) (.int 125)) (by decide +kernel)
      | 11, _ => exact hs (.eq (.elem (.field (.string "PracticeGround$Scanner" 52) "java/lang/String" "value" "[B") (.int 11)) (.int 59)) (by decide +kernel)
    | 1, _ =>
      have hj2 : j < 5 := hj
      match j, hj2 with
      | 0, _ => exact hs (.eq (.elem (.field (.string "PracticeGround$Scanner" 63) "java/lang/String" "value" "[B") (.int 0)) (.int 119)) (by decide +kernel)
      | 1, _ => exact hs (.eq (.elem (.field (.string "PracticeGround$Scanner" 63) "java/lang/String" "value" "[B") (.int 1)) (.int 104)) (by decide +kernel)
      | 2, _ => exact hs (.eq (.elem (.field (.string "PracticeGround$Scanner" 63) "java/lang/String" "value" "[B") (.int 2)) (.int 105)) (by decide +kernel)
      | 3, _ => exact hs (.eq (.elem (.field (.string "PracticeGround$Scanner" 63) "java/lang/String" "value" "[B") (.int 3)) (.int 108)) (by decide +kernel)
      | 4, _ => exact hs (.eq (.elem (.field (.string "PracticeGround$Scanner" 63) "java/lang/String" "value" "[B") (.int 4)) (.int 101)) (by decide +kernel)
    | 2, _ =>
      have hj2 : j < 2 := hj
      match j, hj2 with
      | 0, _ => exact hs (.eq (.elem (.field (.string "PracticeGround$Scanner" 69) "java/lang/String" "value" "[B") (.int 0)) (.int 105)) (by decide +kernel)
      | 1, _ => exact hs (.eq (.elem (.field (.string "PracticeGround$Scanner" 69) "java/lang/String" "value" "[B") (.int 1)) (.int 102)) (by decide +kernel)
    | 3, _ =>
      have hj2 : j < 4 := hj
      match j, hj2 with
      | 0, _ => exact hs (.eq (.elem (.field (.string "PracticeGround$Scanner" 71) "java/lang/String" "value" "[B") (.int 0)) (.int 101)) (by decide +kernel)
      | 1, _ => exact hs (.eq (.elem (.field (.string "PracticeGround$Scanner" 71) "java/lang/String" "value" "[B") (.int 1)) (.int 108)) (by decide +kernel)
      | 2, _ => exact hs (.eq (.elem (.field (.string "PracticeGround$Scanner" 71) "java/lang/String" "value" "[B") (.int 2)) (.int 115)) (by decide +kernel)
      | 3, _ => exact hs (.eq (.elem (.field (.string "PracticeGround$Scanner" 71) "java/lang/String" "value" "[B") (.int 3)) (.int 101)) (by decide +kernel)
  · match i, j, hi, hj, hne with
    | 0, 0, _, _, hne => exact absurd rfl hne
    | 0, 1, _, _, hne => exact Or.inr (hs (.not (.eq (.string "PracticeGround$Scanner" 63) (.string "PracticeGround$Scanner" 52))) (by decide +kernel))
    | 0, 2, _, _, hne => exact Or.inr (hs (.not (.eq (.string "PracticeGround$Scanner" 69) (.string "PracticeGround$Scanner" 52))) (by decide +kernel))
    | 0, 3, _, _, hne => exact Or.inr (hs (.not (.eq (.string "PracticeGround$Scanner" 71) (.string "PracticeGround$Scanner" 52))) (by decide +kernel))
    | 1, 0, _, _, hne => exact Or.inl (hs (.not (.eq (.string "PracticeGround$Scanner" 63) (.string "PracticeGround$Scanner" 52))) (by decide +kernel))
    | 1, 1, _, _, hne => exact absurd rfl hne
    | 1, 2, _, _, hne => exact Or.inl (hs (.not (.eq (.string "PracticeGround$Scanner" 63) (.string "PracticeGround$Scanner" 69))) (by decide +kernel))
    | 1, 3, _, _, hne => exact Or.inl (hs (.not (.eq (.string "PracticeGround$Scanner" 63) (.string "PracticeGround$Scanner" 71))) (by decide +kernel))
    | 2, 0, _, _, hne => exact Or.inl (hs (.not (.eq (.string "PracticeGround$Scanner" 69) (.string "PracticeGround$Scanner" 52))) (by decide +kernel))
    | 2, 1, _, _, hne => exact Or.inr (hs (.not (.eq (.string "PracticeGround$Scanner" 63) (.string "PracticeGround$Scanner" 69))) (by decide +kernel))
    | 2, 2, _, _, hne => exact absurd rfl hne
    | 2, 3, _, _, hne => exact Or.inl (hs (.not (.eq (.string "PracticeGround$Scanner" 69) (.string "PracticeGround$Scanner" 71))) (by decide +kernel))
    | 3, 0, _, _, hne => exact Or.inl (hs (.not (.eq (.string "PracticeGround$Scanner" 71) (.string "PracticeGround$Scanner" 52))) (by decide +kernel))
    | 3, 1, _, _, hne => exact Or.inr (hs (.not (.eq (.string "PracticeGround$Scanner" 63) (.string "PracticeGround$Scanner" 71))) (by decide +kernel))
    | 3, 2, _, _, hne => exact Or.inr (hs (.not (.eq (.string "PracticeGround$Scanner" 69) (.string "PracticeGround$Scanner" 71))) (by decide +kernel))
    | 3, 3, _, _, hne => exact absurd rfl hne
set_option maxHeartbeats 4000000 in
set_option maxRecDepth 20000 in
theorem sr_of {args : Array Value} {s : State} (hts : ∀ w ∈ lw_tbl, w.before args s = true) (hg : (Jvm.Cond.and given_1 narrow_1).before args s = true) {adK : Nat → Nat} (hk : ∀ i : Nat, i < 4 → (tmS i).eval args s none [] s = some (.ref (adK i))) : ∀ (own : String) (idx : Nat) (tx : String), Cond.stringRef own idx tx ∈ lw_tbl → ∃ a, vk_R own idx tx a s ∧ ∀ i, px_lds own idx i → a = adK i := by
  have hs := flat_of_before _ hg
  intro own idx tx hm
  have key : ∀ q ∈ srL, ∃ a, (Term.string q.1 q.2.1).eval args s none [] s = some (.ref a) ∧ ∀ i, px_lds q.1 q.2.1 i → a = adK i := by
    refine List.forall_mem_cons.mpr ⟨?_, List.forall_mem_cons.mpr ⟨?_, List.forall_mem_cons.mpr ⟨?_, List.forall_mem_cons.mpr ⟨?_, List.forall_mem_cons.mpr ⟨?_, List.forall_mem_cons.mpr ⟨?_, List.forall_mem_cons.mpr ⟨?_, List.forall_mem_cons.mpr ⟨?_, List.forall_mem_cons.mpr ⟨?_, List.forall_mem_cons.mpr ⟨?_, List.forall_mem_cons.mpr ⟨?_, List.forall_mem_cons.mpr ⟨?_, List.forall_mem_cons.mpr ⟨?_, List.forall_mem_cons.mpr ⟨?_, List.forall_mem_cons.mpr ⟨?_, fun _ h => absurd h List.not_mem_nil⟩⟩⟩⟩⟩⟩⟩⟩⟩⟩⟩⟩⟩⟩⟩
    · exact ⟨adK 1, hk 1 (by decide), fun i h => by rw [lds_i (j := 1) h (by decide)]⟩
    · exact ⟨adK 2, hk 2 (by decide), fun i h => by rw [lds_i (j := 2) h (by decide)]⟩
    · exact ⟨adK 3, hk 3 (by decide), fun i h => by rw [lds_i (j := 3) h (by decide)]⟩
    · exact ⟨adK 0, hk 0 (by decide), fun i h => by rw [lds_i (j := 0) h (by decide)]⟩
    · obtain ⟨a, _, _, _, q1, _⟩ := Cond.exactly_spec (args := args) (first := s) (o := none) (s := s) (idx := []) (t := .string "PracticeGround" 78) (cls := "java/lang/String") (hs (.exactly (.string "PracticeGround" 78) "java/lang/String") (by decide +kernel))
      exact ⟨a, q1, fun i h => (lds_no h (by decide)).elim⟩
    · obtain ⟨a, _, _, _, q1, _⟩ := Cond.exactly_spec (args := args) (first := s) (o := none) (s := s) (idx := []) (t := .string "PracticeGround" 248) (cls := "java/lang/String") (hs (.exactly (.string "PracticeGround" 248) "java/lang/String") (by decide +kernel))
      exact ⟨a, q1, fun i h => (lds_no h (by decide)).elim⟩
    · obtain ⟨a, _, _, _, q1, _⟩ := Cond.exactly_spec (args := args) (first := s) (o := none) (s := s) (idx := []) (t := .string "PracticeGround" 255) (cls := "java/lang/String") (hs (.exactly (.string "PracticeGround" 255) "java/lang/String") (by decide +kernel))
      exact ⟨a, q1, fun i h => (lds_no h (by decide)).elim⟩
    · obtain ⟨a, _, _, _, q1, _⟩ := Cond.exactly_spec (args := args) (first := s) (o := none) (s := s) (idx := []) (t := .string "PracticeGround" 122) (cls := "java/lang/String") (hs (.exactly (.string "PracticeGround" 122) "java/lang/String") (by decide +kernel))
      exact ⟨a, q1, fun i h => (lds_no h (by decide)).elim⟩
    · obtain ⟨a, _, _, _, q1, _⟩ := Cond.exactly_spec (args := args) (first := s) (o := none) (s := s) (idx := []) (t := .string "PracticeGround" 129) (cls := "java/lang/String") (hs (.exactly (.string "PracticeGround" 129) "java/lang/String") (by decide +kernel))
      exact ⟨a, q1, fun i h => (lds_no h (by decide)).elim⟩
    · obtain ⟨a, _, _, _, q1, _⟩ := Cond.exactly_spec (args := args) (first := s) (o := none) (s := s) (idx := []) (t := .string "PracticeGround" 241) (cls := "java/lang/String") (hs (.exactly (.string "PracticeGround" 241) "java/lang/String") (by decide +kernel))
      exact ⟨a, q1, fun i h => (lds_no h (by decide)).elim⟩
    · obtain ⟨a, _, _, _, q1, _⟩ := Cond.exactly_spec (args := args) (first := s) (o := none) (s := s) (idx := []) (t := .string "PracticeGround" 244) (cls := "java/lang/String") (hs (.exactly (.string "PracticeGround" 244) "java/lang/String") (by decide +kernel))
      exact ⟨a, q1, fun i h => (lds_no h (by decide)).elim⟩
    · obtain ⟨a, _, _, _, q1, _⟩ := Cond.exactly_spec (args := args) (first := s) (o := none) (s := s) (idx := []) (t := .string "PracticeGround" 251) (cls := "java/lang/String") (hs (.exactly (.string "PracticeGround" 251) "java/lang/String") (by decide +kernel))
      exact ⟨a, q1, fun i h => (lds_no h (by decide)).elim⟩
    · exact ⟨adK 1, va_eqR (hs (.eq (.string "PracticeGround$Scanner" 63) (.string "PracticeGroundModel" 121)) (by decide +kernel)) (hk 1 (by decide)), fun i h => by rw [lds_i (j := 1) h (by decide)]⟩
    · exact ⟨adK 2, va_eqR (hs (.eq (.string "PracticeGround$Scanner" 69) (.string "PracticeGroundModel" 127)) (by decide +kernel)) (hk 2 (by decide)), fun i h => by rw [lds_i (j := 2) h (by decide)]⟩
    · exact ⟨adK 3, va_eqR (hs (.eq (.string "PracticeGround$Scanner" 71) (.string "PracticeGroundModel" 129)) (by decide +kernel)) (hk 3 (by decide)), fun i h => by rw [lds_i (j := 3) h (by decide)]⟩
  obtain ⟨a, h1, h2⟩ := key (own, idx, tx) (sr_mem hm)
  exact ⟨a, vk_R.of (A := args) (hts _ hm) h1, h2⟩
set_option maxHeartbeats 4000000 in
set_option maxRecDepth 20000 in
theorem gl_of {args : Array Value} {s : State} {b L : Nat} {xs : Nat → Int32} (hts : ∀ w ∈ lw_tbl, w.before args s = true) (hg : (Jvm.Cond.and given_1 narrow_1).before args s = true) (hX : va_X b L xs s s.heap) (hb : b < s.heap.size) : ∃ (adK adV : Nat → Nat) (cy : Nat → ClassId) (D : va_G), px_Gl (adK, adV, b, L, xs) cy D (fun q => s.heap.size ≤ q) s := by
  have hs := flat_of_before _ hg
  have hA : ∀ a : Nat, a < s.heap.size → ¬ (fun q : Nat => s.heap.size ≤ q) a := fun a h => Nat.not_le.mpr h
  obtain ⟨adK, adV, hS, hk⟩ := st_of hg hA
  obtain ⟨cy, hcy⟩ := ac_of hts
  obtain ⟨D, hD⟩ := kn_of hts
  refine ⟨adK, adV, cy, D, ⟨hD, hcy⟩, fun w hw hn => ?_, sr_of hts hg hk, hS, ?_, ?_, ?_, ?_, hX, hb, hA b hb, va_AO.of (hts _ (List.mem_append_right _ (List.mem_of_getElem? (i := 162) (by decide +kernel)))), va_AO.of (hts _ (List.mem_append_right _ (List.mem_of_getElem? (i := 697) (by decide +kernel)))), va_AO.of (hts _ (List.mem_append_right _ (List.mem_of_getElem? (i := 160) (by decide +kernel)))), (show (Cond.arrayOver (.array .int)).before #[] s = true from hts (.arrayOver (.array .int)) (List.mem_append_right _ (List.mem_of_getElem? (i := 136) (by decide +kernel)))), nc_of hg, fun _ h => h⟩
  · cases w <;> first | exact va_Nw.of rfl (hts _ hw) | (exact absurd hn (by decide)) | (simp [px_nest] at hn)
  · exact va_Zof (hts _ (List.mem_append_right _ (List.mem_of_getElem? (i := 295) (by decide +kernel)))) (hts _ (List.mem_append_right _ (List.mem_of_getElem? (i := 10) (by decide +kernel)))) (va_eqt (hs (.eq (.static "java/lang/String" "COMPACT_STRINGS" "Z") (.int 1)) (by decide +kernel))) hA
  · exact va_Zqof (hts _ (List.mem_append_right _ (List.mem_of_getElem? (i := 311) (by decide +kernel)))) (hts _ (List.mem_append_right _ (List.mem_of_getElem? (i := 12) (by decide +kernel)))) (hs (.isRef (.static "jdk/internal/util/Preconditions" "SIOOBE_FORMATTER" "Ljava/util/function/BiFunction;")) (by decide +kernel)) hA
  · exact vx_Zqof (hts _ (List.mem_append_right _ (List.mem_of_getElem? (i := 525) (by decide +kernel)))) (hts _ (List.mem_append_right _ (List.mem_of_getElem? (i := 19) (by decide +kernel)))) (hs (.isRef (.static "java/lang/Throwable" "UNASSIGNED_STACK" "[Ljava/lang/StackTraceElement;")) (by decide +kernel)) hA
  · exact vx_Zqof (hts _ (List.mem_append_right _ (List.mem_of_getElem? (i := 527) (by decide +kernel)))) (hts _ (List.mem_append_right _ (List.mem_of_getElem? (i := 19) (by decide +kernel)))) (hs (.isRef (.static "java/lang/Throwable" "SUPPRESSED_SENTINEL" "Ljava/util/List;")) (by decide +kernel)) hA
