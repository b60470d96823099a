/-! 10: what the tables say of methods (printed by wip/whole/facts.py) -/
abbrev MX0_init : ai_M := (yX0_init, cX0_init, 1, none, 1, 20)
set_option maxRecDepth 20000 in
theorem mk_X0_init : ai_MK MX0_init 0 := ⟨(ai_in2 32 rfl rfl), (ai_in1 10 rfl rfl), by decide +kernel⟩
set_option maxRecDepth 20000 in
theorem in_X0_init : Cond.instanceMethod yX0_init ∈ ai_T := (ai_in2 31 rfl rfl)
abbrev MX0_begin : ai_M := (yX0_begin, cX0_begin, 5, none, 3, 68)
set_option maxRecDepth 20000 in
theorem mk_X0_begin : ai_MK MX0_begin 2 := ⟨(ai_in5 78 rfl rfl), (ai_in1 10 rfl rfl), by decide +kernel⟩
set_option maxRecDepth 20000 in
theorem in_X0_begin : Cond.instanceMethod yX0_begin ∈ ai_T := (ai_in5 76 rfl rfl)
set_option maxRecDepth 20000 in
theorem se_X0_begin : Cond.selects yX0_begin.cls yX0_begin yX0_begin ∈ ai_T := (ai_in5 77 rfl rfl)
abbrev MX0_isApart : ai_M := (yX0_isApart, cX0_isApart, 3, (some (.boolean)), 1, 22)
set_option maxRecDepth 20000 in
theorem mk_X0_isApart : ai_MK MX0_isApart 2 := ⟨(ai_in5 89 rfl rfl), (ai_in1 10 rfl rfl), by decide +kernel⟩
set_option maxRecDepth 20000 in
theorem in_X0_isApart : Cond.instanceMethod yX0_isApart ∈ ai_T := (ai_in5 88 rfl rfl)
set_option maxRecDepth 20000 in
theorem se_X0_isApart : Cond.selects yX0_isApart.cls yX0_isApart yX0_isApart ∈ ai_T := ai_inS (n := 3) 56 rfl
abbrev MX0_bind : ai_M := (yX0_bind, cX0_bind, 5, none, 2, 44)
set_option maxRecDepth 20000 in
theorem mk_X0_bind : ai_MK MX0_bind 2 := ⟨(ai_in5 85 rfl rfl), (ai_in1 10 rfl rfl), by decide +kernel⟩
set_option maxRecDepth 20000 in
theorem in_X0_bind : Cond.instanceMethod yX0_bind ∈ ai_T := (ai_in5 84 rfl rfl)
set_option maxRecDepth 20000 in
theorem se_X0_bind : Cond.selects yX0_bind.cls yX0_bind yX0_bind ∈ ai_T := ai_inS (n := 3) 55 rfl
abbrev MX0_pairsWith : ai_M := (yX0_pairsWith, cX0_pairsWith, 5, (some (.int)), 3, 68)
set_option maxRecDepth 20000 in
theorem mk_X0_pairsWith : ai_MK MX0_pairsWith 2 := ⟨(ai_in5 95 rfl rfl), (ai_in1 10 rfl rfl), by decide +kernel⟩
set_option maxRecDepth 20000 in
theorem in_X0_pairsWith : Cond.instanceMethod yX0_pairsWith ∈ ai_T := (ai_in5 93 rfl rfl)
set_option maxRecDepth 20000 in
theorem se_X0_pairsWith : Cond.selects yX0_pairsWith.cls yX0_pairsWith yX0_pairsWith ∈ ai_T := (ai_in5 94 rfl rfl)
abbrev MX0_gain : ai_M := (yX0_gain, cX0_gain, 3, (some (.int)), 2, 44)
set_option maxRecDepth 20000 in
theorem mk_X0_gain : ai_MK MX0_gain 2 := ⟨(ai_in5 117 rfl rfl), (ai_in1 10 rfl rfl), by decide +kernel⟩
set_option maxRecDepth 20000 in
theorem in_X0_gain : Cond.instanceMethod yX0_gain ∈ ai_T := (ai_in5 115 rfl rfl)
set_option maxRecDepth 20000 in
theorem se_X0_gain : Cond.selects yX0_gain.cls yX0_gain yX0_gain ∈ ai_T := (ai_in5 116 rfl rfl)
abbrev MX1_init : ai_M := (yX1_init, cX1_init, 1, none, 2, 42)
set_option maxRecDepth 20000 in
theorem mk_X1_init : ai_MK MX1_init 0 := ⟨(ai_in1 33 rfl rfl), (ai_in1 2 rfl rfl), by decide +kernel⟩
set_option maxRecDepth 20000 in
theorem in_X1_init : Cond.instanceMethod yX1_init ∈ ai_T := (ai_in1 32 rfl rfl)
abbrev MX1_become : ai_M := (yX1_become, cX1_become, 2, none, 2, 53)
set_option maxRecDepth 20000 in
theorem mk_X1_become : ai_MK MX1_become 1 := ⟨(ai_in5 191 rfl rfl), (ai_in1 2 rfl rfl), by decide +kernel⟩
set_option maxRecDepth 20000 in
theorem in_X1_become : Cond.instanceMethod yX1_become ∈ ai_T := (ai_in5 189 rfl rfl)
set_option maxRecDepth 20000 in
theorem se_X1_become : Cond.selects yX1_become.cls yX1_become yX1_become ∈ ai_T := (ai_in5 190 rfl rfl)
abbrev MX1_isKnown : ai_M := (yX1_isKnown, cX1_isKnown, 3, (some (.boolean)), 1, 23)
set_option maxRecDepth 20000 in
theorem mk_X1_isKnown : ai_MK MX1_isKnown 2 := ⟨(ai_in2 198 rfl rfl), (ai_in1 2 rfl rfl), by decide +kernel⟩
set_option maxRecDepth 20000 in
theorem in_X1_isKnown : Cond.instanceMethod yX1_isKnown ∈ ai_T := (ai_in2 196 rfl rfl)
set_option maxRecDepth 20000 in
theorem se_X1_isKnown : Cond.selects yX1_isKnown.cls yX1_isKnown yX1_isKnown ∈ ai_T := (ai_in2 197 rfl rfl)
abbrev MX1_isOwn : ai_M := (yX1_isOwn, cX1_isOwn, 4, (some (.boolean)), 2, 45)
set_option maxRecDepth 20000 in
theorem mk_X1_isOwn : ai_MK MX1_isOwn 3 := ⟨(ai_in4 215 rfl rfl), (ai_in1 2 rfl rfl), by decide +kernel⟩
set_option maxRecDepth 20000 in
theorem in_X1_isOwn : Cond.instanceMethod yX1_isOwn ∈ ai_T := (ai_in4 213 rfl rfl)
set_option maxRecDepth 20000 in
theorem se_X1_isOwn : Cond.selects yX1_isOwn.cls yX1_isOwn yX1_isOwn ∈ ai_T := (ai_in4 214 rfl rfl)
abbrev MX1_reduced : ai_M := (yX1_reduced, cX1_reduced, 3, (some (.int)), 1, 23)
set_option maxRecDepth 20000 in
theorem mk_X1_reduced : ai_MK MX1_reduced 1 := ⟨(ai_in2 203 rfl rfl), (ai_in1 2 rfl rfl), by decide +kernel⟩
set_option maxRecDepth 20000 in
theorem in_X1_reduced : Cond.instanceMethod yX1_reduced ∈ ai_T := (ai_in2 201 rfl rfl)
set_option maxRecDepth 20000 in
theorem se_X1_reduced : Cond.selects yX1_reduced.cls yX1_reduced yX1_reduced ∈ ai_T := (ai_in2 202 rfl rfl)
abbrev MX1_late : ai_M := (yX1_late, cX1_late, 2, (some (.int)), 1, 23)
set_option maxRecDepth 20000 in
theorem mk_X1_late : ai_MK MX1_late 1 := ⟨(ai_in4 221 rfl rfl), (ai_in1 2 rfl rfl), by decide +kernel⟩
set_option maxRecDepth 20000 in
theorem in_X1_late : Cond.instanceMethod yX1_late ∈ ai_T := (ai_in4 219 rfl rfl)
set_option maxRecDepth 20000 in
theorem se_X1_late : Cond.selects yX1_late.cls yX1_late yX1_late ∈ ai_T := (ai_in4 220 rfl rfl)
abbrev MX1_weekOf : ai_M := (yX1_weekOf, cX1_weekOf, 2, (some (.int)), 1, 23)
set_option maxRecDepth 20000 in
theorem mk_X1_weekOf : ai_MK MX1_weekOf 1 := ⟨(ai_in4 18 rfl rfl), (ai_in1 2 rfl rfl), by decide +kernel⟩
set_option maxRecDepth 20000 in
theorem in_X1_weekOf : Cond.instanceMethod yX1_weekOf ∈ ai_T := (ai_in4 16 rfl rfl)
set_option maxRecDepth 20000 in
theorem se_X1_weekOf : Cond.selects yX1_weekOf.cls yX1_weekOf yX1_weekOf ∈ ai_T := (ai_in4 17 rfl rfl)
abbrev MX1_yearOf : ai_M := (yX1_yearOf, cX1_yearOf, 2, (some (.int)), 2, 44)
set_option maxRecDepth 20000 in
theorem mk_X1_yearOf : ai_MK MX1_yearOf 1 := ⟨(ai_in4 22 rfl rfl), (ai_in1 2 rfl rfl), by decide +kernel⟩
set_option maxRecDepth 20000 in
theorem in_X1_yearOf : Cond.instanceMethod yX1_yearOf ∈ ai_T := (ai_in4 20 rfl rfl)
set_option maxRecDepth 20000 in
theorem se_X1_yearOf : Cond.selects yX1_yearOf.cls yX1_yearOf yX1_yearOf ∈ ai_T := (ai_in4 21 rfl rfl)
abbrev MX1_ageAt : ai_M := (yX1_ageAt, cX1_ageAt, 2, (some (.int)), 2, 44)
set_option maxRecDepth 20000 in
theorem mk_X1_ageAt : ai_MK MX1_ageAt 1 := ⟨(ai_in4 29 rfl rfl), (ai_in1 2 rfl rfl), by decide +kernel⟩
set_option maxRecDepth 20000 in
theorem in_X1_ageAt : Cond.instanceMethod yX1_ageAt ∈ ai_T := (ai_in4 27 rfl rfl)
set_option maxRecDepth 20000 in
theorem se_X1_ageAt : Cond.selects yX1_ageAt.cls yX1_ageAt yX1_ageAt ∈ ai_T := (ai_in4 28 rfl rfl)
abbrev MX1_word : ai_M := (yX1_word, cX1_word, 4, (some (.int)), 3, 65)
set_option maxRecDepth 20000 in
theorem mk_X1_word : ai_MK MX1_word 2 := ⟨(ai_in4 14 rfl rfl), (ai_in1 2 rfl rfl), by decide +kernel⟩
set_option maxRecDepth 20000 in
theorem in_X1_word : Cond.instanceMethod yX1_word ∈ ai_T := (ai_in4 12 rfl rfl)
set_option maxRecDepth 20000 in
theorem se_X1_word : Cond.selects yX1_word.cls yX1_word yX1_word ∈ ai_T := (ai_in4 13 rfl rfl)
abbrev MX3_init : ai_M := (yX3_init, cX3_init, 4, none, 1, 32)
set_option maxRecDepth 20000 in
theorem mk_X3_init : ai_MK MX3_init 2 := ⟨(ai_in3 206 rfl rfl), (ai_in1 18 rfl rfl), by decide +kernel⟩
set_option maxRecDepth 20000 in
theorem in_X3_init : Cond.instanceMethod yX3_init ∈ ai_T := (ai_in3 205 rfl rfl)
abbrev MX4_init : ai_M := (yX4_init, cX4_init, 2, none, 2, 40)
set_option maxRecDepth 20000 in
theorem mk_X4_init : ai_MK MX4_init 0 := ⟨(ai_in1 220 rfl rfl), (ai_in1 7 rfl rfl), by decide +kernel⟩
set_option maxRecDepth 20000 in
theorem in_X4_init : Cond.instanceMethod yX4_init ∈ ai_T := (ai_in1 219 rfl rfl)
abbrev MX4_of : ai_M := (yX4_of, cX4_of, 4, (some (.object "EachLater$Tally")), 0, 0)
set_option maxRecDepth 20000 in
theorem mk_X4_of : ai_MK MX4_of 2 := ⟨(ai_in4 107 rfl rfl), (ai_in1 7 rfl rfl), by decide +kernel⟩
set_option maxRecDepth 20000 in
theorem in_X4_of : Cond.instanceMethod yX4_of ∈ ai_T := (ai_in4 105 rfl rfl)
set_option maxRecDepth 20000 in
theorem se_X4_of : Cond.selects yX4_of.cls yX4_of yX4_of ∈ ai_T := (ai_in4 106 rfl rfl)
abbrev MX4_measure : ai_M := (yX4_measure, cX4_measure, 3, none, 4, 99)
set_option maxRecDepth 20000 in
theorem mk_X4_measure : ai_MK MX4_measure 1 := ⟨(ai_in4 93 rfl rfl), (ai_in1 7 rfl rfl), by decide +kernel⟩
set_option maxRecDepth 20000 in
theorem in_X4_measure : Cond.instanceMethod yX4_measure ∈ ai_T := (ai_in4 91 rfl rfl)
set_option maxRecDepth 20000 in
theorem se_X4_measure : Cond.selects yX4_measure.cls yX4_measure yX4_measure ∈ ai_T := (ai_in4 92 rfl rfl)
abbrev MX4_measureRing : ai_M := (yX4_measureRing, cX4_measureRing, 5, none, 3, 75)
set_option maxRecDepth 20000 in
theorem mk_X4_measureRing : ai_MK MX4_measureRing 2 := ⟨(ai_in4 102 rfl rfl), (ai_in1 7 rfl rfl), by decide +kernel⟩
set_option maxRecDepth 20000 in
theorem in_X4_measureRing : Cond.instanceMethod yX4_measureRing ∈ ai_T := (ai_in4 101 rfl rfl)
set_option maxRecDepth 20000 in
theorem se_X4_measureRing : Cond.selects yX4_measureRing.cls yX4_measureRing yX4_measureRing ∈ ai_T := ai_inS (n := 2) 41 rfl
abbrev MX4_areMet : ai_M := (yX4_areMet, cX4_areMet, 3, (some (.boolean)), 1, 23)
set_option maxRecDepth 20000 in
theorem mk_X4_areMet : ai_MK MX4_areMet 2 := ⟨(ai_in4 165 rfl rfl), (ai_in1 7 rfl rfl), by decide +kernel⟩
set_option maxRecDepth 20000 in
theorem in_X4_areMet : Cond.instanceMethod yX4_areMet ∈ ai_T := (ai_in4 163 rfl rfl)
set_option maxRecDepth 20000 in
theorem se_X4_areMet : Cond.selects yX4_areMet.cls yX4_areMet yX4_areMet ∈ ai_T := (ai_in4 164 rfl rfl)
abbrev MX4_width : ai_M := (yX4_width, cX4_width, 4, (some (.long)), 1, 23)
set_option maxRecDepth 20000 in
theorem mk_X4_width : ai_MK MX4_width 2 := ⟨(ai_in4 134 rfl rfl), (ai_in1 7 rfl rfl), by decide +kernel⟩
set_option maxRecDepth 20000 in
theorem in_X4_width : Cond.instanceMethod yX4_width ∈ ai_T := (ai_in4 132 rfl rfl)
set_option maxRecDepth 20000 in
theorem se_X4_width : Cond.selects yX4_width.cls yX4_width yX4_width ∈ ai_T := (ai_in4 133 rfl rfl)
abbrev MX5_init : ai_M := (yX5_init, cX5_init, 1, none, 1, 20)
set_option maxRecDepth 20000 in
theorem mk_X5_init : ai_MK MX5_init 0 := ⟨(ai_in1 91 rfl rfl), (ai_in1 4 rfl rfl), by decide +kernel⟩
set_option maxRecDepth 20000 in
theorem in_X5_init : Cond.instanceMethod yX5_init ∈ ai_T := (ai_in1 90 rfl rfl)
abbrev MX5_read : ai_M := (yX5_read, cX5_read, 4, (some (.int)), 9, 189)
set_option maxRecDepth 20000 in
theorem mk_X5_read : ai_MK MX5_read 2 := ⟨(ai_in2 233 rfl rfl), (ai_in1 4 rfl rfl), by decide +kernel⟩
set_option maxRecDepth 20000 in
theorem in_X5_read : Cond.instanceMethod yX5_read ∈ ai_T := (ai_in2 231 rfl rfl)
set_option maxRecDepth 20000 in
theorem se_X5_read : Cond.selects yX5_read.cls yX5_read yX5_read ∈ ai_T := (ai_in2 232 rfl rfl)
abbrev MX5_lawRead : ai_M := (yX5_lawRead, cX5_lawRead, 1, (some (.object "EachLater$Law")), 2, 55)
set_option maxRecDepth 20000 in
theorem mk_X5_lawRead : ai_MK MX5_lawRead 0 := ⟨(ai_in3 201 rfl rfl), (ai_in1 4 rfl rfl), by decide +kernel⟩
set_option maxRecDepth 20000 in
theorem in_X5_lawRead : Cond.instanceMethod yX5_lawRead ∈ ai_T := (ai_in3 199 rfl rfl)
set_option maxRecDepth 20000 in
theorem se_X5_lawRead : Cond.selects yX5_lawRead.cls yX5_lawRead yX5_lawRead ∈ ai_T := (ai_in3 200 rfl rfl)
abbrev MX5_byteAt : ai_M := (yX5_byteAt, cX5_byteAt, 2, (some (.int)), 0, 0)
set_option maxRecDepth 20000 in
theorem mk_X5_byteAt : ai_MK MX5_byteAt 1 := ⟨(ai_in3 7 rfl rfl), (ai_in1 4 rfl rfl), by decide +kernel⟩
set_option maxRecDepth 20000 in
theorem in_X5_byteAt : Cond.instanceMethod yX5_byteAt ∈ ai_T := (ai_in3 6 rfl rfl)
set_option maxRecDepth 20000 in
theorem se_X5_byteAt : Cond.selects yX5_byteAt.cls yX5_byteAt yX5_byteAt ∈ ai_T := ai_inS (n := 17) 4 rfl
abbrev MX5_isDigit : ai_M := (yX5_isDigit, cX5_isDigit, 2, (some (.boolean)), 1, 21)
set_option maxRecDepth 20000 in
theorem mk_X5_isDigit : ai_MK MX5_isDigit 1 := ⟨(ai_in3 12 rfl rfl), (ai_in1 4 rfl rfl), by decide +kernel⟩
set_option maxRecDepth 20000 in
theorem in_X5_isDigit : Cond.instanceMethod yX5_isDigit ∈ ai_T := (ai_in3 11 rfl rfl)
set_option maxRecDepth 20000 in
theorem se_X5_isDigit : Cond.selects yX5_isDigit.cls yX5_isDigit yX5_isDigit ∈ ai_T := ai_inS (n := 17) 5 rfl
abbrev MX5_isLetter : ai_M := (yX5_isLetter, cX5_isLetter, 2, (some (.boolean)), 1, 21)
set_option maxRecDepth 20000 in
theorem mk_X5_isLetter : ai_MK MX5_isLetter 1 := ⟨(ai_in3 21 rfl rfl), (ai_in1 4 rfl rfl), by decide +kernel⟩
set_option maxRecDepth 20000 in
theorem in_X5_isLetter : Cond.instanceMethod yX5_isLetter ∈ ai_T := (ai_in3 20 rfl rfl)
set_option maxRecDepth 20000 in
theorem se_X5_isLetter : Cond.selects yX5_isLetter.cls yX5_isLetter yX5_isLetter ∈ ai_T := ai_inS (n := 17) 7 rfl
abbrev MX5_take : ai_M := (yX5_take, cX5_take, 1, none, 8, 169)
set_option maxRecDepth 20000 in
theorem mk_X5_take : ai_MK MX5_take 0 := ⟨(ai_in3 3 rfl rfl), (ai_in1 4 rfl rfl), by decide +kernel⟩
set_option maxRecDepth 20000 in
theorem in_X5_take : Cond.instanceMethod yX5_take ∈ ai_T := (ai_in3 2 rfl rfl)
set_option maxRecDepth 20000 in
theorem se_X5_take : Cond.selects yX5_take.cls yX5_take yX5_take ∈ ai_T := ai_inS (n := 17) 3 rfl
abbrev MX5_takeNumber : ai_M := (yX5_takeNumber, cX5_takeNumber, 1, none, 2, 42)
set_option maxRecDepth 20000 in
theorem mk_X5_takeNumber : ai_MK MX5_takeNumber 0 := ⟨(ai_in3 16 rfl rfl), (ai_in1 4 rfl rfl), by decide +kernel⟩
set_option maxRecDepth 20000 in
theorem in_X5_takeNumber : Cond.instanceMethod yX5_takeNumber ∈ ai_T := (ai_in3 15 rfl rfl)
set_option maxRecDepth 20000 in
theorem se_X5_takeNumber : Cond.selects yX5_takeNumber.cls yX5_takeNumber yX5_takeNumber ∈ ai_T := ai_inS (n := 17) 6 rfl
abbrev MX5_takeWord : ai_M := (yX5_takeWord, cX5_takeWord, 1, none, 7, 149)
set_option maxRecDepth 20000 in
theorem mk_X5_takeWord : ai_MK MX5_takeWord 0 := ⟨(ai_in3 25 rfl rfl), (ai_in1 4 rfl rfl), by decide +kernel⟩
set_option maxRecDepth 20000 in
theorem in_X5_takeWord : Cond.instanceMethod yX5_takeWord ∈ ai_T := (ai_in3 24 rfl rfl)
set_option maxRecDepth 20000 in
theorem se_X5_takeWord : Cond.selects yX5_takeWord.cls yX5_takeWord yX5_takeWord ∈ ai_T := ai_inS (n := 17) 8 rfl
abbrev MX5_keywordKind : ai_M := (yX5_keywordKind, cX5_keywordKind, 1, (some (.int)), 6, 128)
set_option maxRecDepth 20000 in
theorem mk_X5_keywordKind : ai_MK MX5_keywordKind 0 := ⟨(ai_in3 29 rfl rfl), (ai_in1 4 rfl rfl), by decide +kernel⟩
set_option maxRecDepth 20000 in
theorem in_X5_keywordKind : Cond.instanceMethod yX5_keywordKind ∈ ai_T := (ai_in3 28 rfl rfl)
set_option maxRecDepth 20000 in
theorem se_X5_keywordKind : Cond.selects yX5_keywordKind.cls yX5_keywordKind yX5_keywordKind ∈ ai_T := ai_inS (n := 17) 9 rfl
abbrev MX5_wordOf : ai_M := (yX5_wordOf, cX5_wordOf, 2, (some (.int)), 6, 128)
set_option maxRecDepth 20000 in
theorem mk_X5_wordOf : ai_MK MX5_wordOf 0 := ⟨(ai_in3 95 rfl rfl), (ai_in1 4 rfl rfl), by decide +kernel⟩
set_option maxRecDepth 20000 in
theorem in_X5_wordOf : Cond.instanceMethod yX5_wordOf ∈ ai_T := (ai_in3 94 rfl rfl)
set_option maxRecDepth 20000 in
theorem se_X5_wordOf : Cond.selects yX5_wordOf.cls yX5_wordOf yX5_wordOf ∈ ai_T := ai_inS (n := 17) 11 rfl
abbrev MX5_spelling : ai_M := (yX5_spelling, cX5_spelling, 1, (some (.object "java/lang/String")), 0, 0)
set_option maxRecDepth 20000 in
theorem mk_X5_spelling : ai_MK MX5_spelling 1 := ⟨(ai_in3 98 rfl rfl), (ai_in1 4 rfl rfl), by decide +kernel⟩
set_option maxRecDepth 20000 in
theorem st_X5_spelling : Cond.static yX5_spelling ∈ ai_T := (ai_in3 97 rfl rfl)
abbrev MX5_spells : ai_M := (yX5_spells, cX5_spells, 3, (some (.boolean)), 5, 106)
set_option maxRecDepth 20000 in
theorem mk_X5_spells : ai_MK MX5_spells 1 := ⟨(ai_in3 34 rfl rfl), (ai_in1 4 rfl rfl), by decide +kernel⟩
set_option maxRecDepth 20000 in
theorem in_X5_spells : Cond.instanceMethod yX5_spells ∈ ai_T := (ai_in3 33 rfl rfl)
set_option maxRecDepth 20000 in
theorem se_X5_spells : Cond.selects yX5_spells.cls yX5_spells yX5_spells ∈ ai_T := ai_inS (n := 17) 10 rfl
abbrev MX5_takeSign : ai_M := (yX5_takeSign, cX5_takeSign, 2, none, 1, 21)
set_option maxRecDepth 20000 in
theorem mk_X5_takeSign : ai_MK MX5_takeSign 0 := ⟨(ai_in3 113 rfl rfl), (ai_in1 4 rfl rfl), by decide +kernel⟩
set_option maxRecDepth 20000 in
theorem in_X5_takeSign : Cond.instanceMethod yX5_takeSign ∈ ai_T := (ai_in3 112 rfl rfl)
set_option maxRecDepth 20000 in
theorem se_X5_takeSign : Cond.selects yX5_takeSign.cls yX5_takeSign yX5_takeSign ∈ ai_T := ai_inS (n := 17) 12 rfl
abbrev MX5_signKind : ai_M := (yX5_signKind, cX5_signKind, 2, (some (.int)), 0, 0)
set_option maxRecDepth 20000 in
theorem mk_X5_signKind : ai_MK MX5_signKind 2 := ⟨(ai_in3 116 rfl rfl), (ai_in1 4 rfl rfl), by decide +kernel⟩
set_option maxRecDepth 20000 in
theorem st_X5_signKind : Cond.static yX5_signKind ∈ ai_T := (ai_in3 115 rfl rfl)
abbrev MX5_fail : ai_M := (yX5_fail, cX5_fail, 2, none, 0, 0)
set_option maxRecDepth 20000 in
theorem mk_X5_fail : ai_MK MX5_fail 1 := ⟨(ai_in3 139 rfl rfl), (ai_in1 4 rfl rfl), by decide +kernel⟩
set_option maxRecDepth 20000 in
theorem in_X5_fail : Cond.instanceMethod yX5_fail ∈ ai_T := (ai_in3 138 rfl rfl)
set_option maxRecDepth 20000 in
theorem se_X5_fail : Cond.selects yX5_fail.cls yX5_fail yX5_fail ∈ ai_T := ai_inS (n := 17) 15 rfl
abbrev MX5_follow : ai_M := (yX5_follow, cX5_follow, 1, none, 5, 103)
set_option maxRecDepth 20000 in
theorem mk_X5_follow : ai_MK MX5_follow 0 := ⟨(ai_in3 131 rfl rfl), (ai_in1 4 rfl rfl), by decide +kernel⟩
set_option maxRecDepth 20000 in
theorem in_X5_follow : Cond.instanceMethod yX5_follow ∈ ai_T := (ai_in3 130 rfl rfl)
set_option maxRecDepth 20000 in
theorem se_X5_follow : Cond.selects yX5_follow.cls yX5_follow yX5_follow ∈ ai_T := ai_inS (n := 17) 13 rfl
abbrev MX5_openClause : ai_M := (yX5_openClause, cX5_openClause, 1, none, 1, 21)
set_option maxRecDepth 20000 in
theorem mk_X5_openClause : ai_MK MX5_openClause 0 := ⟨(ai_in3 135 rfl rfl), (ai_in1 4 rfl rfl), by decide +kernel⟩
set_option maxRecDepth 20000 in
theorem in_X5_openClause : Cond.instanceMethod yX5_openClause ∈ ai_T := (ai_in3 134 rfl rfl)
set_option maxRecDepth 20000 in
theorem se_X5_openClause : Cond.selects yX5_openClause.cls yX5_openClause yX5_openClause ∈ ai_T := ai_inS (n := 17) 14 rfl
abbrev MX5_putValue : ai_M := (yX5_putValue, cX5_putValue, 2, none, 1, 21)
set_option maxRecDepth 20000 in
theorem mk_X5_putValue : ai_MK MX5_putValue 1 := ⟨(ai_in3 143 rfl rfl), (ai_in1 4 rfl rfl), by decide +kernel⟩
set_option maxRecDepth 20000 in
theorem in_X5_putValue : Cond.instanceMethod yX5_putValue ∈ ai_T := (ai_in3 142 rfl rfl)
set_option maxRecDepth 20000 in
theorem se_X5_putValue : Cond.selects yX5_putValue.cls yX5_putValue yX5_putValue ∈ ai_T := ai_inS (n := 17) 16 rfl
abbrev MX5_isArithmetic : ai_M := (yX5_isArithmetic, cX5_isArithmetic, 1, (some (.boolean)), 0, 0)
set_option maxRecDepth 20000 in
theorem mk_X5_isArithmetic : ai_MK MX5_isArithmetic 0 := ⟨(ai_in3 156 rfl rfl), (ai_in1 4 rfl rfl), by decide +kernel⟩
set_option maxRecDepth 20000 in
theorem in_X5_isArithmetic : Cond.instanceMethod yX5_isArithmetic ∈ ai_T := (ai_in3 155 rfl rfl)
set_option maxRecDepth 20000 in
theorem se_X5_isArithmetic : Cond.selects yX5_isArithmetic.cls yX5_isArithmetic yX5_isArithmetic ∈ ai_T := ai_inS (n := 17) 19 rfl
abbrev MX5_followValue : ai_M := (yX5_followValue, cX5_followValue, 1, none, 3, 63)
set_option maxRecDepth 20000 in
theorem mk_X5_followValue : ai_MK MX5_followValue 0 := ⟨(ai_in3 152 rfl rfl), (ai_in1 4 rfl rfl), by decide +kernel⟩
set_option maxRecDepth 20000 in
theorem in_X5_followValue : Cond.instanceMethod yX5_followValue ∈ ai_T := (ai_in3 151 rfl rfl)
set_option maxRecDepth 20000 in
theorem se_X5_followValue : Cond.selects yX5_followValue.cls yX5_followValue yX5_followValue ∈ ai_T := ai_inS (n := 17) 18 rfl
abbrev MX5_openFact : ai_M := (yX5_openFact, cX5_openFact, 1, none, 2, 42)
set_option maxRecDepth 20000 in
theorem mk_X5_openFact : ai_MK MX5_openFact 0 := ⟨(ai_in3 181 rfl rfl), (ai_in1 4 rfl rfl), by decide +kernel⟩
set_option maxRecDepth 20000 in
theorem in_X5_openFact : Cond.instanceMethod yX5_openFact ∈ ai_T := (ai_in3 180 rfl rfl)
set_option maxRecDepth 20000 in
theorem se_X5_openFact : Cond.selects yX5_openFact.cls yX5_openFact yX5_openFact ∈ ai_T := ai_inS (n := 17) 24 rfl
abbrev MX5_followLeft : ai_M := (yX5_followLeft, cX5_followLeft, 1, none, 3, 63)
set_option maxRecDepth 20000 in
theorem mk_X5_followLeft : ai_MK MX5_followLeft 0 := ⟨(ai_in3 185 rfl rfl), (ai_in1 4 rfl rfl), by decide +kernel⟩
set_option maxRecDepth 20000 in
theorem in_X5_followLeft : Cond.instanceMethod yX5_followLeft ∈ ai_T := (ai_in3 184 rfl rfl)
set_option maxRecDepth 20000 in
theorem se_X5_followLeft : Cond.selects yX5_followLeft.cls yX5_followLeft yX5_followLeft ∈ ai_T := ai_inS (n := 17) 25 rfl
abbrev MX5_followRight : ai_M := (yX5_followRight, cX5_followRight, 1, none, 4, 83)
set_option maxRecDepth 20000 in
theorem mk_X5_followRight : ai_MK MX5_followRight 0 := ⟨(ai_in3 189 rfl rfl), (ai_in1 4 rfl rfl), by decide +kernel⟩
set_option maxRecDepth 20000 in
theorem in_X5_followRight : Cond.instanceMethod yX5_followRight ∈ ai_T := (ai_in3 188 rfl rfl)
set_option maxRecDepth 20000 in
theorem se_X5_followRight : Cond.selects yX5_followRight.cls yX5_followRight yX5_followRight ∈ ai_T := ai_inS (n := 17) 26 rfl
abbrev MX5_followFact : ai_M := (yX5_followFact, cX5_followFact, 1, none, 3, 63)
set_option maxRecDepth 20000 in
theorem mk_X5_followFact : ai_MK MX5_followFact 0 := ⟨(ai_in3 193 rfl rfl), (ai_in1 4 rfl rfl), by decide +kernel⟩
set_option maxRecDepth 20000 in
theorem in_X5_followFact : Cond.instanceMethod yX5_followFact ∈ ai_T := (ai_in3 192 rfl rfl)
set_option maxRecDepth 20000 in
theorem se_X5_followFact : Cond.selects yX5_followFact.cls yX5_followFact yX5_followFact ∈ ai_T := ai_inS (n := 17) 27 rfl
abbrev MX5_closeBracket : ai_M := (yX5_closeBracket, cX5_closeBracket, 1, none, 2, 42)
set_option maxRecDepth 20000 in
theorem mk_X5_closeBracket : ai_MK MX5_closeBracket 0 := ⟨(ai_in3 197 rfl rfl), (ai_in1 4 rfl rfl), by decide +kernel⟩
set_option maxRecDepth 20000 in
theorem in_X5_closeBracket : Cond.instanceMethod yX5_closeBracket ∈ ai_T := (ai_in3 196 rfl rfl)
set_option maxRecDepth 20000 in
theorem se_X5_closeBracket : Cond.selects yX5_closeBracket.cls yX5_closeBracket yX5_closeBracket ∈ ai_T := ai_inS (n := 17) 28 rfl
abbrev MX5_closeClause : ai_M := (yX5_closeClause, cX5_closeClause, 1, none, 2, 42)
set_option maxRecDepth 20000 in
theorem mk_X5_closeClause : ai_MK MX5_closeClause 0 := ⟨(ai_in3 175 rfl rfl), (ai_in1 4 rfl rfl), by decide +kernel⟩
set_option maxRecDepth 20000 in
theorem in_X5_closeClause : Cond.instanceMethod yX5_closeClause ∈ ai_T := (ai_in3 174 rfl rfl)
set_option maxRecDepth 20000 in
theorem se_X5_closeClause : Cond.selects yX5_closeClause.cls yX5_closeClause yX5_closeClause ∈ ai_T := ai_inS (n := 17) 23 rfl
abbrev MX5_join : ai_M := (yX5_join, cX5_join, 2, none, 2, 42)
set_option maxRecDepth 20000 in
theorem mk_X5_join : ai_MK MX5_join 1 := ⟨(ai_in3 160 rfl rfl), (ai_in1 4 rfl rfl), by decide +kernel⟩
set_option maxRecDepth 20000 in
theorem in_X5_join : Cond.instanceMethod yX5_join ∈ ai_T := (ai_in3 159 rfl rfl)
set_option maxRecDepth 20000 in
theorem se_X5_join : Cond.selects yX5_join.cls yX5_join yX5_join ∈ ai_T := ai_inS (n := 17) 20 rfl
abbrev MX5_rank : ai_M := (yX5_rank, cX5_rank, 1, (some (.int)), 0, 0)
set_option maxRecDepth 20000 in
theorem mk_X5_rank : ai_MK MX5_rank 1 := ⟨(ai_in3 163 rfl rfl), (ai_in1 4 rfl rfl), by decide +kernel⟩
set_option maxRecDepth 20000 in
theorem st_X5_rank : Cond.static yX5_rank ∈ ai_T := (ai_in3 162 rfl rfl)
abbrev MX5_putBy : ai_M := (yX5_putBy, cX5_putBy, 2, none, 0, 0)
set_option maxRecDepth 20000 in
theorem mk_X5_putBy : ai_MK MX5_putBy 1 := ⟨(ai_in3 171 rfl rfl), (ai_in1 4 rfl rfl), by decide +kernel⟩
set_option maxRecDepth 20000 in
theorem in_X5_putBy : Cond.instanceMethod yX5_putBy ∈ ai_T := (ai_in3 170 rfl rfl)
set_option maxRecDepth 20000 in
theorem se_X5_putBy : Cond.selects yX5_putBy.cls yX5_putBy yX5_putBy ∈ ai_T := ai_inS (n := 17) 22 rfl
abbrev MX5_settle : ai_M := (yX5_settle, cX5_settle, 2, none, 1, 21)
set_option maxRecDepth 20000 in
theorem mk_X5_settle : ai_MK MX5_settle 1 := ⟨(ai_in3 167 rfl rfl), (ai_in1 4 rfl rfl), by decide +kernel⟩
set_option maxRecDepth 20000 in
theorem in_X5_settle : Cond.instanceMethod yX5_settle ∈ ai_T := (ai_in3 166 rfl rfl)
set_option maxRecDepth 20000 in
theorem se_X5_settle : Cond.selects yX5_settle.cls yX5_settle yX5_settle ∈ ai_T := ai_inS (n := 17) 21 rfl
abbrev MX5_step : ai_M := (yX5_step, cX5_step, 2, none, 0, 0)
set_option maxRecDepth 20000 in
theorem mk_X5_step : ai_MK MX5_step 1 := ⟨(ai_in3 148 rfl rfl), (ai_in1 4 rfl rfl), by decide +kernel⟩
set_option maxRecDepth 20000 in
theorem in_X5_step : Cond.instanceMethod yX5_step ∈ ai_T := (ai_in3 147 rfl rfl)
set_option maxRecDepth 20000 in
theorem se_X5_step : Cond.selects yX5_step.cls yX5_step yX5_step ∈ ai_T := ai_inS (n := 17) 17 rfl
abbrev MX6_init : ai_M := (yX6_init, cX6_init, 1, none, 1, 20)
set_option maxRecDepth 20000 in
theorem mk_X6_init : ai_MK MX6_init 0 := ⟨(ai_in2 16 rfl rfl), (ai_in1 9 rfl rfl), by decide +kernel⟩
set_option maxRecDepth 20000 in
theorem in_X6_init : Cond.instanceMethod yX6_init ∈ ai_T := (ai_in2 15 rfl rfl)
abbrev MX6_lead : ai_M := (yX6_lead, cX6_lead, 6, none, 4, 96)
set_option maxRecDepth 20000 in
theorem mk_X6_lead : ai_MK MX6_lead 3 := ⟨(ai_in4 147 rfl rfl), (ai_in1 9 rfl rfl), by decide +kernel⟩
set_option maxRecDepth 20000 in
theorem in_X6_lead : Cond.instanceMethod yX6_lead ∈ ai_T := (ai_in4 145 rfl rfl)
set_option maxRecDepth 20000 in
theorem se_X6_lead : Cond.selects yX6_lead.cls yX6_lead yX6_lead ∈ ai_T := (ai_in4 146 rfl rfl)
abbrev MX6_tollBy : ai_M := (yX6_tollBy, cX6_tollBy, 4, (some (.long)), 2, 46)
set_option maxRecDepth 20000 in
theorem mk_X6_tollBy : ai_MK MX6_tollBy 3 := ⟨(ai_in4 156 rfl rfl), (ai_in1 9 rfl rfl), by decide +kernel⟩
set_option maxRecDepth 20000 in
theorem in_X6_tollBy : Cond.instanceMethod yX6_tollBy ∈ ai_T := (ai_in4 155 rfl rfl)
set_option maxRecDepth 20000 in
theorem se_X6_tollBy : Cond.selects yX6_tollBy.cls yX6_tollBy yX6_tollBy ∈ ai_T := ai_inS (n := 3) 44 rfl
abbrev MX6_shorten : ai_M := (yX6_shorten, cX6_shorten, 8, (some (.boolean)), 3, 69)
set_option maxRecDepth 20000 in
theorem mk_X6_shorten : ai_MK MX6_shorten 2 := ⟨(ai_in4 152 rfl rfl), (ai_in1 9 rfl rfl), by decide +kernel⟩
set_option maxRecDepth 20000 in
theorem in_X6_shorten : Cond.instanceMethod yX6_shorten ∈ ai_T := (ai_in4 151 rfl rfl)
set_option maxRecDepth 20000 in
theorem se_X6_shorten : Cond.selects yX6_shorten.cls yX6_shorten yX6_shorten ∈ ai_T := ai_inS (n := 3) 43 rfl
abbrev MX6_firstOnward : ai_M := (yX6_firstOnward, cX6_firstOnward, 5, (some (.int)), 3, 69)
set_option maxRecDepth 20000 in
theorem mk_X6_firstOnward : ai_MK MX6_firstOnward 3 := ⟨(ai_in4 171 rfl rfl), (ai_in1 9 rfl rfl), by decide +kernel⟩
set_option maxRecDepth 20000 in
theorem in_X6_firstOnward : Cond.instanceMethod yX6_firstOnward ∈ ai_T := (ai_in4 170 rfl rfl)
set_option maxRecDepth 20000 in
theorem se_X6_firstOnward : Cond.selects yX6_firstOnward.cls yX6_firstOnward yX6_firstOnward ∈ ai_T := ai_inS (n := 3) 45 rfl
abbrev MX6_sumAlong : ai_M := (yX6_sumAlong, cX6_sumAlong, 7, (some (.long)), 3, 64)
set_option maxRecDepth 20000 in
theorem mk_X6_sumAlong : ai_MK MX6_sumAlong 2 := ⟨(ai_in4 175 rfl rfl), (ai_in1 9 rfl rfl), by decide +kernel⟩
set_option maxRecDepth 20000 in
theorem in_X6_sumAlong : Cond.instanceMethod yX6_sumAlong ∈ ai_T := (ai_in4 174 rfl rfl)
set_option maxRecDepth 20000 in
theorem se_X6_sumAlong : Cond.selects yX6_sumAlong.cls yX6_sumAlong yX6_sumAlong ∈ ai_T := ai_inS (n := 3) 46 rfl
abbrev MX6_reach : ai_M := (yX6_reach, cX6_reach, 2, (some (.boolean)), 1, 22)
set_option maxRecDepth 20000 in
theorem mk_X6_reach : ai_MK MX6_reach 1 := ⟨(ai_in4 160 rfl rfl), (ai_in1 9 rfl rfl), by decide +kernel⟩
set_option maxRecDepth 20000 in
theorem in_X6_reach : Cond.instanceMethod yX6_reach ∈ ai_T := (ai_in4 158 rfl rfl)
set_option maxRecDepth 20000 in
theorem se_X6_reach : Cond.selects yX6_reach.cls yX6_reach yX6_reach ∈ ai_T := (ai_in4 159 rfl rfl)
abbrev MX6_links : ai_M := (yX6_links, cX6_links, 2, (some (.int)), 2, 43)
set_option maxRecDepth 20000 in
theorem mk_X6_links : ai_MK MX6_links 1 := ⟨(ai_in4 179 rfl rfl), (ai_in1 9 rfl rfl), by decide +kernel⟩
set_option maxRecDepth 20000 in
theorem in_X6_links : Cond.instanceMethod yX6_links ∈ ai_T := (ai_in4 177 rfl rfl)
set_option maxRecDepth 20000 in
theorem se_X6_links : Cond.selects yX6_links.cls yX6_links yX6_links ∈ ai_T := (ai_in4 178 rfl rfl)
abbrev MX6_width : ai_M := (yX6_width, cX6_width, 2, (some (.long)), 2, 43)
set_option maxRecDepth 20000 in
theorem mk_X6_width : ai_MK MX6_width 1 := ⟨(ai_in4 191 rfl rfl), (ai_in1 9 rfl rfl), by decide +kernel⟩
set_option maxRecDepth 20000 in
theorem in_X6_width : Cond.instanceMethod yX6_width ∈ ai_T := (ai_in4 189 rfl rfl)
set_option maxRecDepth 20000 in
theorem se_X6_width : Cond.selects yX6_width.cls yX6_width yX6_width ∈ ai_T := (ai_in4 190 rfl rfl)
abbrev MX6_lean : ai_M := (yX6_lean, cX6_lean, 2, (some (.long)), 2, 43)
set_option maxRecDepth 20000 in
theorem mk_X6_lean : ai_MK MX6_lean 1 := ⟨(ai_in4 187 rfl rfl), (ai_in1 9 rfl rfl), by decide +kernel⟩
set_option maxRecDepth 20000 in
theorem in_X6_lean : Cond.instanceMethod yX6_lean ∈ ai_T := (ai_in4 185 rfl rfl)
set_option maxRecDepth 20000 in
theorem se_X6_lean : Cond.selects yX6_lean.cls yX6_lean yX6_lean ∈ ai_T := (ai_in4 186 rfl rfl)
abbrev MX6_along : ai_M := (yX6_along, cX6_along, 5, (some (.int)), 1, 22)
set_option maxRecDepth 20000 in
theorem mk_X6_along : ai_MK MX6_along 2 := ⟨(ai_in4 199 rfl rfl), (ai_in1 9 rfl rfl), by decide +kernel⟩
set_option maxRecDepth 20000 in
theorem in_X6_along : Cond.instanceMethod yX6_along ∈ ai_T := (ai_in4 197 rfl rfl)
set_option maxRecDepth 20000 in
theorem se_X6_along : Cond.selects yX6_along.cls yX6_along yX6_along ∈ ai_T := (ai_in4 198 rfl rfl)
abbrev MX7_init : ai_M := (yX7_init, cX7_init, 1, none, 1, 20)
set_option maxRecDepth 20000 in
theorem mk_X7_init : ai_MK MX7_init 0 := ⟨(ai_in1 151 rfl rfl), (ai_in1 5 rfl rfl), by decide +kernel⟩
set_option maxRecDepth 20000 in
theorem in_X7_init : Cond.instanceMethod yX7_init ∈ ai_T := (ai_in1 150 rfl rfl)
abbrev MX7_weigh : ai_M := (yX7_weigh, cX7_weigh, 9, (some (.int)), 4, 88)
set_option maxRecDepth 20000 in
theorem mk_X7_weigh : ai_MK MX7_weigh 3 := ⟨(ai_in3 231 rfl rfl), (ai_in1 5 rfl rfl), by decide +kernel⟩
set_option maxRecDepth 20000 in
theorem in_X7_weigh : Cond.instanceMethod yX7_weigh ∈ ai_T := (ai_in3 229 rfl rfl)
set_option maxRecDepth 20000 in
theorem se_X7_weigh : Cond.selects yX7_weigh.cls yX7_weigh yX7_weigh ∈ ai_T := (ai_in3 230 rfl rfl)
abbrev MX7_held : ai_M := (yX7_held, cX7_held, 2, (some (.int)), 1, 23)
set_option maxRecDepth 20000 in
theorem mk_X7_held : ai_MK MX7_held 1 := ⟨(ai_in3 239 rfl rfl), (ai_in1 5 rfl rfl), by decide +kernel⟩
set_option maxRecDepth 20000 in
theorem st_X7_held : Cond.static yX7_held ∈ ai_T := (ai_in3 238 rfl rfl)
abbrev MX7_lift : ai_M := (yX7_lift, cX7_lift, 3, none, 0, 0)
set_option maxRecDepth 20000 in
theorem mk_X7_lift : ai_MK MX7_lift 1 := ⟨(ai_in4 9 rfl rfl), (ai_in1 5 rfl rfl), by decide +kernel⟩
set_option maxRecDepth 20000 in
theorem in_X7_lift : Cond.instanceMethod yX7_lift ∈ ai_T := (ai_in4 8 rfl rfl)
set_option maxRecDepth 20000 in
theorem se_X7_lift : Cond.selects yX7_lift.cls yX7_lift yX7_lift ∈ ai_T := ai_inS (n := 2) 31 rfl
abbrev MX7_drop : ai_M := (yX7_drop, cX7_drop, 1, (some (.long)), 0, 0)
set_option maxRecDepth 20000 in
theorem mk_X7_drop : ai_MK MX7_drop 0 := ⟨(ai_in3 236 rfl rfl), (ai_in1 5 rfl rfl), by decide +kernel⟩
set_option maxRecDepth 20000 in
theorem in_X7_drop : Cond.instanceMethod yX7_drop ∈ ai_T := (ai_in3 235 rfl rfl)
set_option maxRecDepth 20000 in
theorem se_X7_drop : Cond.selects yX7_drop.cls yX7_drop yX7_drop ∈ ai_T := ai_inS (n := 2) 30 rfl
abbrev MX7_operate : ai_M := (yX7_operate, cX7_operate, 4, none, 2, 48)
set_option maxRecDepth 20000 in
theorem mk_X7_operate : ai_MK MX7_operate 1 := ⟨(ai_in4 33 rfl rfl), (ai_in1 5 rfl rfl), by decide +kernel⟩
set_option maxRecDepth 20000 in
theorem in_X7_operate : Cond.instanceMethod yX7_operate ∈ ai_T := (ai_in4 32 rfl rfl)
set_option maxRecDepth 20000 in
theorem se_X7_operate : Cond.selects yX7_operate.cls yX7_operate yX7_operate ∈ ai_T := ai_inS (n := 2) 32 rfl
abbrev MX7_joined : ai_M := (yX7_joined, cX7_joined, 5, (some (.long)), 1, 24)
set_option maxRecDepth 20000 in
theorem mk_X7_joined : ai_MK MX7_joined 3 := ⟨(ai_in4 37 rfl rfl), (ai_in1 5 rfl rfl), by decide +kernel⟩
set_option maxRecDepth 20000 in
theorem st_X7_joined : Cond.static yX7_joined ∈ ai_T := (ai_in4 36 rfl rfl)
abbrev MX7_holds : ai_M := (yX7_holds, cX7_holds, 5, (some (.boolean)), 0, 0)
set_option maxRecDepth 20000 in
theorem mk_X7_holds : ai_MK MX7_holds 3 := ⟨(ai_in4 40 rfl rfl), (ai_in1 5 rfl rfl), by decide +kernel⟩
set_option maxRecDepth 20000 in
theorem st_X7_holds : Cond.static yX7_holds ∈ ai_T := (ai_in4 39 rfl rfl)
abbrev MX2_init : ai_M := (yX2_init, cX2_init, 1, none, 1, 20)
set_option maxRecDepth 20000 in
theorem mk_X2_init : ai_MK MX2_init 0 := ⟨(ai_in1 164 rfl rfl), (ai_in1 6 rfl rfl), by decide +kernel⟩
set_option maxRecDepth 20000 in
theorem in_X2_init : Cond.instanceMethod yX2_init ∈ ai_T := (ai_in1 163 rfl rfl)
abbrev MX2_gather : ai_M := (yX2_gather, cX2_gather, 4, none, 3, 77)
set_option maxRecDepth 20000 in
theorem mk_X2_gather : ai_MK MX2_gather 2 := ⟨(ai_in4 61 rfl rfl), (ai_in1 6 rfl rfl), by decide +kernel⟩
set_option maxRecDepth 20000 in
theorem in_X2_gather : Cond.instanceMethod yX2_gather ∈ ai_T := (ai_in4 59 rfl rfl)
set_option maxRecDepth 20000 in
theorem se_X2_gather : Cond.selects yX2_gather.cls yX2_gather yX2_gather ∈ ai_T := (ai_in4 60 rfl rfl)
abbrev MX2_enter : ai_M := (yX2_enter, cX2_enter, 11, none, 2, 47)
set_option maxRecDepth 20000 in
theorem mk_X2_enter : ai_MK MX2_enter 2 := ⟨(ai_in4 66 rfl rfl), (ai_in1 6 rfl rfl), by decide +kernel⟩
set_option maxRecDepth 20000 in
theorem in_X2_enter : Cond.instanceMethod yX2_enter ∈ ai_T := (ai_in4 65 rfl rfl)
set_option maxRecDepth 20000 in
theorem se_X2_enter : Cond.selects yX2_enter.cls yX2_enter yX2_enter ∈ ai_T := ai_inS (n := 13) 36 rfl
abbrev MX2_has : ai_M := (yX2_has, cX2_has, 2, (some (.boolean)), 0, 0)
set_option maxRecDepth 20000 in
theorem mk_X2_has : ai_MK MX2_has 1 := ⟨(ai_in4 76 rfl rfl), (ai_in1 6 rfl rfl), by decide +kernel⟩
set_option maxRecDepth 20000 in
theorem in_X2_has : Cond.instanceMethod yX2_has ∈ ai_T := (ai_in4 74 rfl rfl)
set_option maxRecDepth 20000 in
theorem se_X2_has : Cond.selects yX2_has.cls yX2_has yX2_has ∈ ai_T := (ai_in4 75 rfl rfl)
abbrev MX2_find : ai_M := (yX2_find, cX2_find, 6, (some (.int)), 1, 22)
set_option maxRecDepth 20000 in
theorem mk_X2_find : ai_MK MX2_find 3 := ⟨(ai_in4 71 rfl rfl), (ai_in1 6 rfl rfl), by decide +kernel⟩
set_option maxRecDepth 20000 in
theorem in_X2_find : Cond.instanceMethod yX2_find ∈ ai_T := (ai_in4 70 rfl rfl)
set_option maxRecDepth 20000 in
theorem se_X2_find : Cond.selects yX2_find.cls yX2_find yX2_find ∈ ai_T := ai_inS (n := 13) 37 rfl
abbrev MX2_ringed : ai_M := (yX2_ringed, cX2_ringed, 5, (some (.int)), 1, 21)
set_option maxRecDepth 20000 in
theorem mk_X2_ringed : ai_MK MX2_ringed 2 := ⟨(ai_in4 80 rfl rfl), (ai_in1 6 rfl rfl), by decide +kernel⟩
set_option maxRecDepth 20000 in
theorem in_X2_ringed : Cond.instanceMethod yX2_ringed ∈ ai_T := (ai_in4 79 rfl rfl)
set_option maxRecDepth 20000 in
theorem se_X2_ringed : Cond.selects yX2_ringed.cls yX2_ringed yX2_ringed ∈ ai_T := ai_inS (n := 13) 38 rfl
abbrev MX2_open : ai_M := (yX2_open, cX2_open, 6, (some (.int)), 0, 0)
set_option maxRecDepth 20000 in
theorem mk_X2_open : ai_MK MX2_open 4 := ⟨(ai_in4 84 rfl rfl), (ai_in1 6 rfl rfl), by decide +kernel⟩
set_option maxRecDepth 20000 in
theorem in_X2_open : Cond.instanceMethod yX2_open ∈ ai_T := (ai_in4 83 rfl rfl)
set_option maxRecDepth 20000 in
theorem se_X2_open : Cond.selects yX2_open.cls yX2_open yX2_open ∈ ai_T := ai_inS (n := 13) 39 rfl
abbrev MX2_join : ai_M := (yX2_join, cX2_join, 3, none, 1, 22)
set_option maxRecDepth 20000 in
theorem mk_X2_join : ai_MK MX2_join 2 := ⟨(ai_in4 88 rfl rfl), (ai_in1 6 rfl rfl), by decide +kernel⟩
set_option maxRecDepth 20000 in
theorem in_X2_join : Cond.instanceMethod yX2_join ∈ ai_T := (ai_in4 87 rfl rfl)
set_option maxRecDepth 20000 in
theorem se_X2_join : Cond.selects yX2_join.cls yX2_join yX2_join ∈ ai_T := ai_inS (n := 13) 40 rfl
abbrev MX2_mean : ai_M := (yX2_mean, cX2_mean, 3, (some (.long)), 1, 25)
set_option maxRecDepth 20000 in
theorem mk_X2_mean : ai_MK MX2_mean 1 := ⟨(ai_in5 62 rfl rfl), (ai_in1 6 rfl rfl), by decide +kernel⟩
set_option maxRecDepth 20000 in
theorem in_X2_mean : Cond.instanceMethod yX2_mean ∈ ai_T := (ai_in5 60 rfl rfl)
set_option maxRecDepth 20000 in
theorem se_X2_mean : Cond.selects yX2_mean.cls yX2_mean yX2_mean ∈ ai_T := (ai_in5 61 rfl rfl)
abbrev MX2_isBy : ai_M := (yX2_isBy, cX2_isBy, 3, (some (.boolean)), 1, 21)
set_option maxRecDepth 20000 in
theorem mk_X2_isBy : ai_MK MX2_isBy 2 := ⟨(ai_in5 49 rfl rfl), (ai_in1 6 rfl rfl), by decide +kernel⟩
set_option maxRecDepth 20000 in
theorem in_X2_isBy : Cond.instanceMethod yX2_isBy ∈ ai_T := (ai_in5 47 rfl rfl)
set_option maxRecDepth 20000 in
theorem se_X2_isBy : Cond.selects yX2_isBy.cls yX2_isBy yX2_isBy ∈ ai_T := (ai_in5 48 rfl rfl)
abbrev MX2_isFeigned : ai_M := (yX2_isFeigned, cX2_isFeigned, 2, (some (.boolean)), 1, 21)
set_option maxRecDepth 20000 in
theorem mk_X2_isFeigned : ai_MK MX2_isFeigned 1 := ⟨(ai_in4 98 rfl rfl), (ai_in1 6 rfl rfl), by decide +kernel⟩
set_option maxRecDepth 20000 in
theorem in_X2_isFeigned : Cond.instanceMethod yX2_isFeigned ∈ ai_T := (ai_in4 96 rfl rfl)
set_option maxRecDepth 20000 in
theorem se_X2_isFeigned : Cond.selects yX2_isFeigned.cls yX2_isFeigned yX2_isFeigned ∈ ai_T := (ai_in4 97 rfl rfl)
abbrev MX2_met : ai_M := (yX2_met, cX2_met, 3, (some (.int)), 2, 45)
set_option maxRecDepth 20000 in
theorem mk_X2_met : ai_MK MX2_met 2 := ⟨(ai_in5 130 rfl rfl), (ai_in1 6 rfl rfl), by decide +kernel⟩
set_option maxRecDepth 20000 in
theorem in_X2_met : Cond.instanceMethod yX2_met ∈ ai_T := (ai_in5 128 rfl rfl)
set_option maxRecDepth 20000 in
theorem se_X2_met : Cond.selects yX2_met.cls yX2_met yX2_met ∈ ai_T := (ai_in5 129 rfl rfl)
abbrev MX2_lessMean : ai_M := (yX2_lessMean, cX2_lessMean, 9, (some (.long)), 1, 25)
set_option maxRecDepth 20000 in
theorem mk_X2_lessMean : ai_MK MX2_lessMean 4 := ⟨(ai_in4 115 rfl rfl), (ai_in1 6 rfl rfl), by decide +kernel⟩
set_option maxRecDepth 20000 in
theorem in_X2_lessMean : Cond.instanceMethod yX2_lessMean ∈ ai_T := (ai_in4 113 rfl rfl)
set_option maxRecDepth 20000 in
theorem se_X2_lessMean : Cond.selects yX2_lessMean.cls yX2_lessMean yX2_lessMean ∈ ai_T := (ai_in4 114 rfl rfl)
abbrev MX2_difference : ai_M := (yX2_difference, cX2_difference, 3, (some (.long)), 2, 53)
set_option maxRecDepth 20000 in
theorem mk_X2_difference : ai_MK MX2_difference 2 := ⟨(ai_in4 111 rfl rfl), (ai_in1 6 rfl rfl), by decide +kernel⟩
set_option maxRecDepth 20000 in
theorem in_X2_difference : Cond.instanceMethod yX2_difference ∈ ai_T := (ai_in4 109 rfl rfl)
set_option maxRecDepth 20000 in
theorem se_X2_difference : Cond.selects yX2_difference.cls yX2_difference yX2_difference ∈ ai_T := (ai_in4 110 rfl rfl)
abbrev MX2_differences : ai_M := (yX2_differences, cX2_differences, 9, (some (.int)), 3, 75)
set_option maxRecDepth 20000 in
theorem mk_X2_differences : ai_MK MX2_differences 3 := ⟨(ai_in5 125 rfl rfl), (ai_in1 6 rfl rfl), by decide +kernel⟩
set_option maxRecDepth 20000 in
theorem in_X2_differences : Cond.instanceMethod yX2_differences ∈ ai_T := (ai_in5 123 rfl rfl)
set_option maxRecDepth 20000 in
theorem se_X2_differences : Cond.selects yX2_differences.cls yX2_differences yX2_differences ∈ ai_T := (ai_in5 124 rfl rfl)
abbrev MX2_scatterOf : ai_M := (yX2_scatterOf, cX2_scatterOf, 11, (some (.long)), 1, 25)
set_option maxRecDepth 20000 in
theorem mk_X2_scatterOf : ai_MK MX2_scatterOf 1 := ⟨(ai_in5 17 rfl rfl), (ai_in1 6 rfl rfl), by decide +kernel⟩
set_option maxRecDepth 20000 in
theorem in_X2_scatterOf : Cond.instanceMethod yX2_scatterOf ∈ ai_T := (ai_in5 15 rfl rfl)
set_option maxRecDepth 20000 in
theorem se_X2_scatterOf : Cond.selects yX2_scatterOf.cls yX2_scatterOf yX2_scatterOf ∈ ai_T := (ai_in5 16 rfl rfl)
abbrev MX8_init : ai_M := (yX8_init, cX8_init, 3, none, 1, 20)
set_option maxRecDepth 20000 in
theorem mk_X8_init : ai_MK MX8_init 2 := ⟨(ai_in1 39 rfl rfl), (ai_in1 3 rfl rfl), by decide +kernel⟩
set_option maxRecDepth 20000 in
theorem in_X8_init : Cond.instanceMethod yX8_init ∈ ai_T := (ai_in1 38 rfl rfl)
abbrev MX8_has : ai_M := (yX8_has, cX8_has, 2, (some (.boolean)), 0, 0)
set_option maxRecDepth 20000 in
theorem mk_X8_has : ai_MK MX8_has 1 := ⟨(ai_in2 153 rfl rfl), (ai_in1 3 rfl rfl), by decide +kernel⟩
set_option maxRecDepth 20000 in
theorem in_X8_has : Cond.instanceMethod yX8_has ∈ ai_T := (ai_in2 151 rfl rfl)
set_option maxRecDepth 20000 in
theorem se_X8_has : Cond.selects yX8_has.cls yX8_has yX8_has ∈ ai_T := (ai_in2 152 rfl rfl)
abbrev MX8_grow : ai_M := (yX8_grow, cX8_grow, 1, (some (.int)), 0, 0)
set_option maxRecDepth 20000 in
theorem mk_X8_grow : ai_MK MX8_grow 0 := ⟨(ai_in2 145 rfl rfl), (ai_in1 3 rfl rfl), by decide +kernel⟩
set_option maxRecDepth 20000 in
theorem in_X8_grow : Cond.instanceMethod yX8_grow ∈ ai_T := (ai_in2 143 rfl rfl)
set_option maxRecDepth 20000 in
theorem se_X8_grow : Cond.selects yX8_grow.cls yX8_grow yX8_grow ∈ ai_T := (ai_in2 144 rfl rfl)
abbrev MX8_at : ai_M := (yX8_at, cX8_at, 4, (some (.int)), 0, 0)
set_option maxRecDepth 20000 in
theorem mk_X8_at : ai_MK MX8_at 2 := ⟨(ai_in2 181 rfl rfl), (ai_in1 3 rfl rfl), by decide +kernel⟩
set_option maxRecDepth 20000 in
theorem in_X8_at : Cond.instanceMethod yX8_at ∈ ai_T := (ai_in2 179 rfl rfl)
set_option maxRecDepth 20000 in
theorem se_X8_at : Cond.selects yX8_at.cls yX8_at yX8_at ∈ ai_T := (ai_in2 180 rfl rfl)
abbrev MX8_put : ai_M := (yX8_put, cX8_put, 4, none, 1, 21)
set_option maxRecDepth 20000 in
theorem mk_X8_put : ai_MK MX8_put 3 := ⟨(ai_in2 149 rfl rfl), (ai_in1 3 rfl rfl), by decide +kernel⟩
set_option maxRecDepth 20000 in
theorem in_X8_put : Cond.instanceMethod yX8_put ∈ ai_T := (ai_in2 147 rfl rfl)
set_option maxRecDepth 20000 in
theorem se_X8_put : Cond.selects yX8_put.cls yX8_put yX8_put ∈ ai_T := (ai_in2 148 rfl rfl)
abbrev MX8_become : ai_M := (yX8_become, cX8_become, 2, none, 1, 32)
set_option maxRecDepth 20000 in
theorem mk_X8_become : ai_MK MX8_become 1 := ⟨(ai_in5 195 rfl rfl), (ai_in1 3 rfl rfl), by decide +kernel⟩
set_option maxRecDepth 20000 in
theorem in_X8_become : Cond.instanceMethod yX8_become ∈ ai_T := (ai_in5 193 rfl rfl)
set_option maxRecDepth 20000 in
theorem se_X8_become : Cond.selects yX8_become.cls yX8_become yX8_become ∈ ai_T := (ai_in5 194 rfl rfl)
abbrev MX9_init : ai_M := (yX9_init, cX9_init, 1, none, 1, 20)
set_option maxRecDepth 20000 in
theorem mk_X9_init : ai_MK MX9_init 0 := ⟨(ai_in1 227 rfl rfl), (ai_in1 8 rfl rfl), by decide +kernel⟩
set_option maxRecDepth 20000 in
theorem in_X9_init : Cond.instanceMethod yX9_init ∈ ai_T := (ai_in1 226 rfl rfl)
abbrev MX9_clear : ai_M := (yX9_clear, cX9_clear, 1, none, 0, 0)
set_option maxRecDepth 20000 in
theorem mk_X9_clear : ai_MK MX9_clear 0 := ⟨(ai_in2 194 rfl rfl), (ai_in1 8 rfl rfl), by decide +kernel⟩
set_option maxRecDepth 20000 in
theorem in_X9_clear : Cond.instanceMethod yX9_clear ∈ ai_T := (ai_in2 192 rfl rfl)
set_option maxRecDepth 20000 in
theorem se_X9_clear : Cond.selects yX9_clear.cls yX9_clear yX9_clear ∈ ai_T := (ai_in2 193 rfl rfl)
abbrev MX9_add : ai_M := (yX9_add, cX9_add, 3, none, 1, 23)
set_option maxRecDepth 20000 in
theorem mk_X9_add : ai_MK MX9_add 1 := ⟨(ai_in2 207 rfl rfl), (ai_in1 8 rfl rfl), by decide +kernel⟩
set_option maxRecDepth 20000 in
theorem in_X9_add : Cond.instanceMethod yX9_add ∈ ai_T := (ai_in2 205 rfl rfl)
set_option maxRecDepth 20000 in
theorem se_X9_add : Cond.selects yX9_add.cls yX9_add yX9_add ∈ ai_T := (ai_in2 206 rfl rfl)
abbrev MX9_mean : ai_M := (yX9_mean, cX9_mean, 1, (some (.long)), 1, 25)
set_option maxRecDepth 20000 in
theorem mk_X9_mean : ai_MK MX9_mean 0 := ⟨(ai_in4 125 rfl rfl), (ai_in1 8 rfl rfl), by decide +kernel⟩
set_option maxRecDepth 20000 in
theorem in_X9_mean : Cond.instanceMethod yX9_mean ∈ ai_T := (ai_in4 123 rfl rfl)
set_option maxRecDepth 20000 in
theorem se_X9_mean : Cond.selects yX9_mean.cls yX9_mean yX9_mean ∈ ai_T := (ai_in4 124 rfl rfl)
abbrev MX9_thousandths : ai_M := (yX9_thousandths, cX9_thousandths, 1, (some (.long)), 1, 25)
set_option maxRecDepth 20000 in
theorem mk_X9_thousandths : ai_MK MX9_thousandths 0 := ⟨(ai_in4 225 rfl rfl), (ai_in1 8 rfl rfl), by decide +kernel⟩
set_option maxRecDepth 20000 in
theorem in_X9_thousandths : Cond.instanceMethod yX9_thousandths ∈ ai_T := (ai_in4 223 rfl rfl)
set_option maxRecDepth 20000 in
theorem se_X9_thousandths : Cond.selects yX9_thousandths.cls yX9_thousandths yX9_thousandths ∈ ai_T := (ai_in4 224 rfl rfl)
abbrev MX9_span : ai_M := (yX9_span, cX9_span, 1, (some (.long)), 0, 0)
set_option maxRecDepth 20000 in
theorem mk_X9_span : ai_MK MX9_span 0 := ⟨(ai_in4 130 rfl rfl), (ai_in1 8 rfl rfl), by decide +kernel⟩
set_option maxRecDepth 20000 in
theorem in_X9_span : Cond.instanceMethod yX9_span ∈ ai_T := (ai_in4 128 rfl rfl)
set_option maxRecDepth 20000 in
theorem se_X9_span : Cond.selects yX9_span.cls yX9_span yX9_span ∈ ai_T := (ai_in4 129 rfl rfl)
abbrev MX10_init : ai_M := (yX10_init, cX10_init, 1, none, 2, 40)
set_option maxRecDepth 20000 in
theorem mk_X10_init : ai_MK MX10_init 0 := ⟨(ai_in2 48 rfl rfl), (ai_in1 11 rfl rfl), by decide +kernel⟩
set_option maxRecDepth 20000 in
theorem in_X10_init : Cond.instanceMethod yX10_init ∈ ai_T := (ai_in2 47 rfl rfl)
abbrev MX10_begin : ai_M := (yX10_begin, cX10_begin, 4, none, 0, 0)
set_option maxRecDepth 20000 in
theorem mk_X10_begin : ai_MK MX10_begin 3 := ⟨(ai_in5 147 rfl rfl), (ai_in1 11 rfl rfl), by decide +kernel⟩
set_option maxRecDepth 20000 in
theorem in_X10_begin : Cond.instanceMethod yX10_begin ∈ ai_T := (ai_in5 145 rfl rfl)
set_option maxRecDepth 20000 in
theorem se_X10_begin : Cond.selects yX10_begin.cls yX10_begin yX10_begin ∈ ai_T := (ai_in5 146 rfl rfl)
abbrev MX10_take : ai_M := (yX10_take, cX10_take, 5, none, 3, 67)
set_option maxRecDepth 20000 in
theorem mk_X10_take : ai_MK MX10_take 2 := ⟨(ai_in5 156 rfl rfl), (ai_in1 11 rfl rfl), by decide +kernel⟩
set_option maxRecDepth 20000 in
theorem in_X10_take : Cond.instanceMethod yX10_take ∈ ai_T := (ai_in5 154 rfl rfl)
set_option maxRecDepth 20000 in
theorem se_X10_take : Cond.selects yX10_take.cls yX10_take yX10_take ∈ ai_T := (ai_in5 155 rfl rfl)
abbrev MX10_areMet : ai_M := (yX10_areMet, cX10_areMet, 1, (some (.boolean)), 0, 0)
set_option maxRecDepth 20000 in
theorem mk_X10_areMet : ai_MK MX10_areMet 0 := ⟨(ai_in5 163 rfl rfl), (ai_in1 11 rfl rfl), by decide +kernel⟩
set_option maxRecDepth 20000 in
theorem in_X10_areMet : Cond.instanceMethod yX10_areMet ∈ ai_T := (ai_in5 161 rfl rfl)
set_option maxRecDepth 20000 in
theorem se_X10_areMet : Cond.selects yX10_areMet.cls yX10_areMet yX10_areMet ∈ ai_T := (ai_in5 162 rfl rfl)
abbrev MX10_draw : ai_M := (yX10_draw, cX10_draw, 6, (some (.int)), 4, 89)
set_option maxRecDepth 20000 in
theorem mk_X10_draw : ai_MK MX10_draw 3 := ⟨(ai_in5 167 rfl rfl), (ai_in1 11 rfl rfl), by decide +kernel⟩
set_option maxRecDepth 20000 in
theorem in_X10_draw : Cond.instanceMethod yX10_draw ∈ ai_T := (ai_in5 165 rfl rfl)
set_option maxRecDepth 20000 in
theorem se_X10_draw : Cond.selects yX10_draw.cls yX10_draw yX10_draw ∈ ai_T := (ai_in5 166 rfl rfl)
abbrev MX10_drawWorld : ai_M := (yX10_drawWorld, cX10_drawWorld, 3, none, 0, 0)
set_option maxRecDepth 20000 in
theorem mk_X10_drawWorld : ai_MK MX10_drawWorld 1 := ⟨(ai_in5 171 rfl rfl), (ai_in1 11 rfl rfl), by decide +kernel⟩
set_option maxRecDepth 20000 in
theorem in_X10_drawWorld : Cond.instanceMethod yX10_drawWorld ∈ ai_T := (ai_in5 170 rfl rfl)
set_option maxRecDepth 20000 in
theorem se_X10_drawWorld : Cond.selects yX10_drawWorld.cls yX10_drawWorld yX10_drawWorld ∈ ai_T := ai_inS (n := 9) 60 rfl
abbrev MX10_apartMean : ai_M := (yX10_apartMean, cX10_apartMean, 3, (some (.long)), 3, 67)
set_option maxRecDepth 20000 in
theorem mk_X10_apartMean : ai_MK MX10_apartMean 0 := ⟨(ai_in5 179 rfl rfl), (ai_in1 11 rfl rfl), by decide +kernel⟩
set_option maxRecDepth 20000 in
theorem in_X10_apartMean : Cond.instanceMethod yX10_apartMean ∈ ai_T := (ai_in5 178 rfl rfl)
set_option maxRecDepth 20000 in
theorem se_X10_apartMean : Cond.selects yX10_apartMean.cls yX10_apartMean yX10_apartMean ∈ ai_T := ai_inS (n := 9) 61 rfl
abbrev MX11_init : ai_M := (yX11_init, cX11_init, 1, none, 3, 62)
set_option maxRecDepth 20000 in
theorem mk_X11_init : ai_MK MX11_init 0 := ⟨(ai_in1 25 rfl rfl), (ai_in1 1 rfl rfl), by decide +kernel⟩
set_option maxRecDepth 20000 in
theorem in_X11_init : Cond.instanceMethod yX11_init ∈ ai_T := (ai_in1 24 rfl rfl)
abbrev MX11_clock : ai_M := (yX11_clock, cX11_clock, 2, (some (.boolean)), 2, 42)
set_option maxRecDepth 20000 in
theorem mk_X11_clock : ai_MK MX11_clock 1 := ⟨(ai_in2 131 rfl rfl), (ai_in1 1 rfl rfl), by decide +kernel⟩
set_option maxRecDepth 20000 in
theorem in_X11_clock : Cond.instanceMethod yX11_clock ∈ ai_T := (ai_in2 129 rfl rfl)
set_option maxRecDepth 20000 in
theorem se_X11_clock : Cond.selects yX11_clock.cls yX11_clock yX11_clock ∈ ai_T := (ai_in2 130 rfl rfl)
abbrev MX11_observer : ai_M := (yX11_observer, cX11_observer, 3, (some (.int)), 2, 44)
set_option maxRecDepth 20000 in
theorem mk_X11_observer : ai_MK MX11_observer 1 := ⟨(ai_in2 141 rfl rfl), (ai_in1 1 rfl rfl), by decide +kernel⟩
set_option maxRecDepth 20000 in
theorem in_X11_observer : Cond.instanceMethod yX11_observer ∈ ai_T := (ai_in2 139 rfl rfl)
set_option maxRecDepth 20000 in
theorem se_X11_observer : Cond.selects yX11_observer.cls yX11_observer yX11_observer ∈ ai_T := (ai_in2 140 rfl rfl)
abbrev MX11_star : ai_M := (yX11_star, cX11_star, 5, (some (.int)), 2, 44)
set_option maxRecDepth 20000 in
theorem mk_X11_star : ai_MK MX11_star 3 := ⟨(ai_in2 157 rfl rfl), (ai_in1 1 rfl rfl), by decide +kernel⟩
set_option maxRecDepth 20000 in
theorem in_X11_star : Cond.instanceMethod yX11_star ∈ ai_T := (ai_in2 155 rfl rfl)
set_option maxRecDepth 20000 in
theorem se_X11_star : Cond.selects yX11_star.cls yX11_star yX11_star ∈ ai_T := (ai_in2 156 rfl rfl)
abbrev MX11_night : ai_M := (yX11_night, cX11_night, 4, (some (.int)), 2, 44)
set_option maxRecDepth 20000 in
theorem mk_X11_night : ai_MK MX11_night 2 := ⟨(ai_in2 161 rfl rfl), (ai_in1 1 rfl rfl), by decide +kernel⟩
set_option maxRecDepth 20000 in
theorem in_X11_night : Cond.instanceMethod yX11_night ∈ ai_T := (ai_in2 159 rfl rfl)
set_option maxRecDepth 20000 in
theorem se_X11_night : Cond.selects yX11_night.cls yX11_night yX11_night ∈ ai_T := (ai_in2 160 rfl rfl)
abbrev MX11_record : ai_M := (yX11_record, cX11_record, 11, (some (.int)), 2, 46)
set_option maxRecDepth 20000 in
theorem mk_X11_record : ai_MK MX11_record 7 := ⟨(ai_in2 168 rfl rfl), (ai_in1 1 rfl rfl), by decide +kernel⟩
set_option maxRecDepth 20000 in
theorem in_X11_record : Cond.instanceMethod yX11_record ∈ ai_T := (ai_in2 166 rfl rfl)
set_option maxRecDepth 20000 in
theorem se_X11_record : Cond.selects yX11_record.cls yX11_record yX11_record ∈ ai_T := (ai_in2 167 rfl rfl)
abbrev MX11_strike : ai_M := (yX11_strike, cX11_strike, 2, (some (.boolean)), 2, 44)
set_option maxRecDepth 20000 in
theorem mk_X11_strike : ai_MK MX11_strike 1 := ⟨(ai_in2 177 rfl rfl), (ai_in1 1 rfl rfl), by decide +kernel⟩
set_option maxRecDepth 20000 in
theorem in_X11_strike : Cond.instanceMethod yX11_strike ∈ ai_T := (ai_in2 175 rfl rfl)
set_option maxRecDepth 20000 in
theorem se_X11_strike : Cond.selects yX11_strike.cls yX11_strike yX11_strike ∈ ai_T := (ai_in2 176 rfl rfl)
abbrev MX11_seen : ai_M := (yX11_seen, cX11_seen, 8, (some (.int)), 3, 72)
set_option maxRecDepth 20000 in
theorem mk_X11_seen : ai_MK MX11_seen 6 := ⟨(ai_in2 185 rfl rfl), (ai_in1 1 rfl rfl), by decide +kernel⟩
set_option maxRecDepth 20000 in
theorem in_X11_seen : Cond.instanceMethod yX11_seen ∈ ai_T := (ai_in2 183 rfl rfl)
set_option maxRecDepth 20000 in
theorem se_X11_seen : Cond.selects yX11_seen.cls yX11_seen yX11_seen ∈ ai_T := (ai_in2 184 rfl rfl)
abbrev MX11_feed : ai_M := (yX11_feed, cX11_feed, 6, (some (.int)), 1, 22)
set_option maxRecDepth 20000 in
theorem mk_X11_feed : ai_MK MX11_feed 5 := ⟨(ai_in2 217 rfl rfl), (ai_in1 1 rfl rfl), by decide +kernel⟩
set_option maxRecDepth 20000 in
theorem in_X11_feed : Cond.instanceMethod yX11_feed ∈ ai_T := (ai_in2 215 rfl rfl)
set_option maxRecDepth 20000 in
theorem se_X11_feed : Cond.selects yX11_feed.cls yX11_feed yX11_feed ∈ ai_T := (ai_in2 216 rfl rfl)
abbrev MX11_end : ai_M := (yX11_end, cX11_end, 2, (some (.int)), 1, 22)
set_option maxRecDepth 20000 in
theorem mk_X11_end : ai_MK MX11_end 1 := ⟨(ai_in2 225 rfl rfl), (ai_in1 1 rfl rfl), by decide +kernel⟩
set_option maxRecDepth 20000 in
theorem in_X11_end : Cond.instanceMethod yX11_end ∈ ai_T := (ai_in2 223 rfl rfl)
set_option maxRecDepth 20000 in
theorem se_X11_end : Cond.selects yX11_end.cls yX11_end yX11_end ∈ ai_T := (ai_in2 224 rfl rfl)
abbrev MX11_law : ai_M := (yX11_law, cX11_law, 2, (some (.int)), 10, 212)
set_option maxRecDepth 20000 in
theorem mk_X11_law : ai_MK MX11_law 0 := ⟨(ai_in2 229 rfl rfl), (ai_in1 1 rfl rfl), by decide +kernel⟩
set_option maxRecDepth 20000 in
theorem in_X11_law : Cond.instanceMethod yX11_law ∈ ai_T := (ai_in2 227 rfl rfl)
set_option maxRecDepth 20000 in
theorem se_X11_law : Cond.selects yX11_law.cls yX11_law yX11_law ∈ ai_T := (ai_in2 228 rfl rfl)
abbrev MX11_gives : ai_M := (yX11_gives, cX11_gives, 4, (some (.int)), 5, 116)
set_option maxRecDepth 20000 in
theorem mk_X11_gives : ai_MK MX11_gives 2 := ⟨(ai_in3 222 rfl rfl), (ai_in1 1 rfl rfl), by decide +kernel⟩
set_option maxRecDepth 20000 in
theorem in_X11_gives : Cond.instanceMethod yX11_gives ∈ ai_T := (ai_in3 220 rfl rfl)
set_option maxRecDepth 20000 in
theorem se_X11_gives : Cond.selects yX11_gives.cls yX11_gives yX11_gives ∈ ai_T := (ai_in3 221 rfl rfl)
abbrev MX11_two : ai_M := (yX11_two, cX11_two, 6, (some (.int)), 6, 142)
set_option maxRecDepth 20000 in
theorem mk_X11_two : ai_MK MX11_two 4 := ⟨(ai_in4 44 rfl rfl), (ai_in1 1 rfl rfl), by decide +kernel⟩
set_option maxRecDepth 20000 in
theorem in_X11_two : Cond.instanceMethod yX11_two ∈ ai_T := (ai_in4 42 rfl rfl)
set_option maxRecDepth 20000 in
theorem se_X11_two : Cond.selects yX11_two.cls yX11_two yX11_two ∈ ai_T := (ai_in4 43 rfl rfl)
abbrev MX11_rope : ai_M := (yX11_rope, cX11_rope, 5, (some (.int)), 6, 143)
set_option maxRecDepth 20000 in
theorem mk_X11_rope : ai_MK MX11_rope 4 := ⟨(ai_in4 139 rfl rfl), (ai_in1 1 rfl rfl), by decide +kernel⟩
set_option maxRecDepth 20000 in
theorem in_X11_rope : Cond.instanceMethod yX11_rope ∈ ai_T := (ai_in4 137 rfl rfl)
set_option maxRecDepth 20000 in
theorem se_X11_rope : Cond.selects yX11_rope.cls yX11_rope yX11_rope ∈ ai_T := (ai_in4 138 rfl rfl)
abbrev MX11_knot : ai_M := (yX11_knot, cX11_knot, 5, (some (.int)), 6, 143)
set_option maxRecDepth 20000 in
theorem mk_X11_knot : ai_MK MX11_knot 4 := ⟨(ai_in4 195 rfl rfl), (ai_in1 1 rfl rfl), by decide +kernel⟩
set_option maxRecDepth 20000 in
theorem in_X11_knot : Cond.instanceMethod yX11_knot ∈ ai_T := (ai_in4 193 rfl rfl)
set_option maxRecDepth 20000 in
theorem se_X11_knot : Cond.selects yX11_knot.cls yX11_knot yX11_knot ∈ ai_T := (ai_in4 194 rfl rfl)
abbrev MX11_far : ai_M := (yX11_far, cX11_far, 5, (some (.int)), 6, 143)
set_option maxRecDepth 20000 in
theorem mk_X11_far : ai_MK MX11_far 2 := ⟨(ai_in4 203 rfl rfl), (ai_in1 1 rfl rfl), by decide +kernel⟩
set_option maxRecDepth 20000 in
theorem in_X11_far : Cond.instanceMethod yX11_far ∈ ai_T := (ai_in4 201 rfl rfl)
set_option maxRecDepth 20000 in
theorem se_X11_far : Cond.selects yX11_far.cls yX11_far yX11_far ∈ ai_T := (ai_in4 202 rfl rfl)
abbrev MX11_own : ai_M := (yX11_own, cX11_own, 6, (some (.int)), 4, 92)
set_option maxRecDepth 20000 in
theorem mk_X11_own : ai_MK MX11_own 4 := ⟨(ai_in4 207 rfl rfl), (ai_in1 1 rfl rfl), by decide +kernel⟩
set_option maxRecDepth 20000 in
theorem in_X11_own : Cond.instanceMethod yX11_own ∈ ai_T := (ai_in4 205 rfl rfl)
set_option maxRecDepth 20000 in
theorem se_X11_own : Cond.selects yX11_own.cls yX11_own yX11_own ∈ ai_T := (ai_in4 206 rfl rfl)
abbrev MX11_left : ai_M := (yX11_left, cX11_left, 5, (some (.long)), 6, 144)
set_option maxRecDepth 20000 in
theorem mk_X11_left : ai_MK MX11_left 3 := ⟨(ai_in4 230 rfl rfl), (ai_in1 1 rfl rfl), by decide +kernel⟩
set_option maxRecDepth 20000 in
theorem in_X11_left : Cond.instanceMethod yX11_left ∈ ai_T := (ai_in4 228 rfl rfl)
set_option maxRecDepth 20000 in
theorem se_X11_left : Cond.selects yX11_left.cls yX11_left yX11_left ∈ ai_T := (ai_in4 229 rfl rfl)
abbrev MX11_best : ai_M := (yX11_best, cX11_best, 7, (some (.int)), 7, 169)
set_option maxRecDepth 20000 in
theorem mk_X11_best : ai_MK MX11_best 4 := ⟨(ai_in5 0 rfl rfl), (ai_in1 1 rfl rfl), by decide +kernel⟩
set_option maxRecDepth 20000 in
theorem in_X11_best : Cond.instanceMethod yX11_best ∈ ai_T := (ai_in4 238 rfl rfl)
set_option maxRecDepth 20000 in
theorem se_X11_best : Cond.selects yX11_best.cls yX11_best yX11_best ∈ ai_T := (ai_in4 239 rfl rfl)
abbrev MX11_scatter : ai_M := (yX11_scatter, cX11_scatter, 3, (some (.long)), 4, 100)
set_option maxRecDepth 20000 in
theorem mk_X11_scatter : ai_MK MX11_scatter 2 := ⟨(ai_in5 13 rfl rfl), (ai_in1 1 rfl rfl), by decide +kernel⟩
set_option maxRecDepth 20000 in
theorem in_X11_scatter : Cond.instanceMethod yX11_scatter ∈ ai_T := (ai_in5 11 rfl rfl)
set_option maxRecDepth 20000 in
theorem se_X11_scatter : Cond.selects yX11_scatter.cls yX11_scatter yX11_scatter ∈ ai_T := (ai_in5 12 rfl rfl)
abbrev MX11_finest : ai_M := (yX11_finest, cX11_finest, 8, (some (.int)), 4, 100)
set_option maxRecDepth 20000 in
theorem mk_X11_finest : ai_MK MX11_finest 1 := ⟨(ai_in5 29 rfl rfl), (ai_in1 1 rfl rfl), by decide +kernel⟩
set_option maxRecDepth 20000 in
theorem in_X11_finest : Cond.instanceMethod yX11_finest ∈ ai_T := (ai_in5 27 rfl rfl)
set_option maxRecDepth 20000 in
theorem se_X11_finest : Cond.selects yX11_finest.cls yX11_finest yX11_finest ∈ ai_T := (ai_in5 28 rfl rfl)
abbrev MX11_moved : ai_M := (yX11_moved, cX11_moved, 11, (some (.int)), 6, 143)
set_option maxRecDepth 20000 in
theorem mk_X11_moved : ai_MK MX11_moved 7 := ⟨(ai_in5 34 rfl rfl), (ai_in1 1 rfl rfl), by decide +kernel⟩
set_option maxRecDepth 20000 in
theorem in_X11_moved : Cond.instanceMethod yX11_moved ∈ ai_T := (ai_in5 32 rfl rfl)
set_option maxRecDepth 20000 in
theorem se_X11_moved : Cond.selects yX11_moved.cls yX11_moved yX11_moved ∈ ai_T := (ai_in5 33 rfl rfl)
abbrev MX11_longitude : ai_M := (yX11_longitude, cX11_longitude, 6, (some (.int)), 7, 167)
set_option maxRecDepth 20000 in
theorem mk_X11_longitude : ai_MK MX11_longitude 4 := ⟨(ai_in5 41 rfl rfl), (ai_in1 1 rfl rfl), by decide +kernel⟩
set_option maxRecDepth 20000 in
theorem in_X11_longitude : Cond.instanceMethod yX11_longitude ∈ ai_T := (ai_in5 39 rfl rfl)
set_option maxRecDepth 20000 in
theorem se_X11_longitude : Cond.selects yX11_longitude.cls yX11_longitude yX11_longitude ∈ ai_T := (ai_in5 40 rfl rfl)
abbrev MX11_journey : ai_M := (yX11_journey, cX11_journey, 5, (some (.int)), 3, 65)
set_option maxRecDepth 20000 in
theorem mk_X11_journey : ai_MK MX11_journey 3 := ⟨(ai_in5 66 rfl rfl), (ai_in1 1 rfl rfl), by decide +kernel⟩
set_option maxRecDepth 20000 in
theorem in_X11_journey : Cond.instanceMethod yX11_journey ∈ ai_T := (ai_in5 64 rfl rfl)
set_option maxRecDepth 20000 in
theorem se_X11_journey : Cond.selects yX11_journey.cls yX11_journey yX11_journey ∈ ai_T := (ai_in5 65 rfl rfl)
abbrev MX11_tied : ai_M := (yX11_tied, cX11_tied, 2, (some (.int)), 6, 142)
set_option maxRecDepth 20000 in
theorem mk_X11_tied : ai_MK MX11_tied 1 := ⟨(ai_in5 70 rfl rfl), (ai_in1 1 rfl rfl), by decide +kernel⟩
set_option maxRecDepth 20000 in
theorem in_X11_tied : Cond.instanceMethod yX11_tied ∈ ai_T := (ai_in5 68 rfl rfl)
set_option maxRecDepth 20000 in
theorem se_X11_tied : Cond.selects yX11_tied.cls yX11_tied yX11_tied ∈ ai_T := (ai_in5 69 rfl rfl)
abbrev MX11_plan : ai_M := (yX11_plan, cX11_plan, 4, (some (.int)), 6, 142)
set_option maxRecDepth 20000 in
theorem mk_X11_plan : ai_MK MX11_plan 2 := ⟨(ai_in5 101 rfl rfl), (ai_in1 1 rfl rfl), by decide +kernel⟩
set_option maxRecDepth 20000 in
theorem in_X11_plan : Cond.instanceMethod yX11_plan ∈ ai_T := (ai_in5 99 rfl rfl)
set_option maxRecDepth 20000 in
theorem se_X11_plan : Cond.selects yX11_plan.cls yX11_plan yX11_plan ∈ ai_T := (ai_in5 100 rfl rfl)
abbrev MX11_next : ai_M := (yX11_next, cX11_next, 6, (some (.int)), 6, 142)
set_option maxRecDepth 20000 in
theorem mk_X11_next : ai_MK MX11_next 0 := ⟨(ai_in5 113 rfl rfl), (ai_in1 1 rfl rfl), by decide +kernel⟩
set_option maxRecDepth 20000 in
theorem in_X11_next : Cond.instanceMethod yX11_next ∈ ai_T := (ai_in5 111 rfl rfl)
set_option maxRecDepth 20000 in
theorem se_X11_next : Cond.selects yX11_next.cls yX11_next yX11_next ∈ ai_T := (ai_in5 112 rfl rfl)
abbrev MX11_said : ai_M := (yX11_said, cX11_said, 6, (some (.long)), 4, 103)
set_option maxRecDepth 20000 in
theorem mk_X11_said : ai_MK MX11_said 4 := ⟨(ai_in5 121 rfl rfl), (ai_in1 1 rfl rfl), by decide +kernel⟩
set_option maxRecDepth 20000 in
theorem in_X11_said : Cond.instanceMethod yX11_said ∈ ai_T := (ai_in5 119 rfl rfl)
set_option maxRecDepth 20000 in
theorem se_X11_said : Cond.selects yX11_said.cls yX11_said yX11_said ∈ ai_T := (ai_in5 120 rfl rfl)
abbrev MX11_leans : ai_M := (yX11_leans, cX11_leans, 3, (some (.boolean)), 2, 44)
set_option maxRecDepth 20000 in
theorem mk_X11_leans : ai_MK MX11_leans 2 := ⟨(ai_in5 139 rfl rfl), (ai_in1 1 rfl rfl), by decide +kernel⟩
set_option maxRecDepth 20000 in
theorem in_X11_leans : Cond.instanceMethod yX11_leans ∈ ai_T := (ai_in5 137 rfl rfl)
set_option maxRecDepth 20000 in
theorem se_X11_leans : Cond.selects yX11_leans.cls yX11_leans yX11_leans ∈ ai_T := (ai_in5 138 rfl rfl)
abbrev MX11_later : ai_M := (yX11_later, cX11_later, 7, (some (.int)), 6, 138)
set_option maxRecDepth 20000 in
theorem mk_X11_later : ai_MK MX11_later 5 := ⟨(ai_in5 143 rfl rfl), (ai_in1 1 rfl rfl), by decide +kernel⟩
set_option maxRecDepth 20000 in
theorem in_X11_later : Cond.instanceMethod yX11_later ∈ ai_T := (ai_in5 141 rfl rfl)
set_option maxRecDepth 20000 in
theorem se_X11_later : Cond.selects yX11_later.cls yX11_later yX11_later ∈ ai_T := (ai_in5 142 rfl rfl)
abbrev MX11_mark : ai_M := (yX11_mark, cX11_mark, 3, (some (.int)), 3, 74)
set_option maxRecDepth 20000 in
theorem mk_X11_mark : ai_MK MX11_mark 1 := ⟨(ai_in5 187 rfl rfl), (ai_in1 1 rfl rfl), by decide +kernel⟩
set_option maxRecDepth 20000 in
theorem in_X11_mark : Cond.instanceMethod yX11_mark ∈ ai_T := (ai_in5 185 rfl rfl)
set_option maxRecDepth 20000 in
theorem se_X11_mark : Cond.selects yX11_mark.cls yX11_mark yX11_mark ∈ ai_T := (ai_in5 186 rfl rfl)
abbrev MX11_back : ai_M := (yX11_back, cX11_back, 3, (some (.int)), 3, 74)
set_option maxRecDepth 20000 in
theorem mk_X11_back : ai_MK MX11_back 1 := ⟨(ai_in5 200 rfl rfl), (ai_in1 1 rfl rfl), by decide +kernel⟩
set_option maxRecDepth 20000 in
theorem in_X11_back : Cond.instanceMethod yX11_back ∈ ai_T := (ai_in5 198 rfl rfl)
set_option maxRecDepth 20000 in
theorem se_X11_back : Cond.selects yX11_back.cls yX11_back yX11_back ∈ ai_T := (ai_in5 199 rfl rfl)
abbrev MX11_count : ai_M := (yX11_count, cX11_count, 2, (some (.int)), 0, 0)
set_option maxRecDepth 20000 in
theorem mk_X11_count : ai_MK MX11_count 1 := ⟨(ai_in5 204 rfl rfl), (ai_in1 1 rfl rfl), by decide +kernel⟩
set_option maxRecDepth 20000 in
theorem in_X11_count : Cond.instanceMethod yX11_count ∈ ai_T := (ai_in5 202 rfl rfl)
set_option maxRecDepth 20000 in
theorem se_X11_count : Cond.selects yX11_count.cls yX11_count yX11_count ∈ ai_T := (ai_in5 203 rfl rfl)
abbrev MX11_isWithin : ai_M := (yX11_isWithin, cX11_isWithin, 3, (some (.boolean)), 0, 0)
set_option maxRecDepth 20000 in
theorem mk_X11_isWithin : ai_MK MX11_isWithin 3 := ⟨(ai_in2 137 rfl rfl), (ai_in1 1 rfl rfl), by decide +kernel⟩
set_option maxRecDepth 20000 in
theorem st_X11_isWithin : Cond.static yX11_isWithin ∈ ai_T := (ai_in2 136 rfl rfl)
abbrev MX11_isWeek : ai_M := (yX11_isWeek, cX11_isWeek, 1, (some (.boolean)), 1, 22)
set_option maxRecDepth 20000 in
theorem mk_X11_isWeek : ai_MK MX11_isWeek 1 := ⟨(ai_in2 134 rfl rfl), (ai_in1 1 rfl rfl), by decide +kernel⟩
set_option maxRecDepth 20000 in
theorem st_X11_isWeek : Cond.static yX11_isWeek ∈ ai_T := (ai_in2 133 rfl rfl)
abbrev MX11_isHouse : ai_M := (yX11_isHouse, cX11_isHouse, 1, (some (.boolean)), 1, 22)
set_option maxRecDepth 20000 in
theorem mk_X11_isHouse : ai_MK MX11_isHouse 1 := ⟨(ai_in2 164 rfl rfl), (ai_in1 1 rfl rfl), by decide +kernel⟩
set_option maxRecDepth 20000 in
theorem st_X11_isHouse : Cond.static yX11_isHouse ∈ ai_T := (ai_in2 163 rfl rfl)
abbrev MX11_isSight : ai_M := (yX11_isSight, cX11_isSight, 5, (some (.boolean)), 1, 22)
set_option maxRecDepth 20000 in
theorem mk_X11_isSight : ai_MK MX11_isSight 4 := ⟨(ai_in2 172 rfl rfl), (ai_in1 1 rfl rfl), by decide +kernel⟩
set_option maxRecDepth 20000 in
theorem in_X11_isSight : Cond.instanceMethod yX11_isSight ∈ ai_T := (ai_in2 171 rfl rfl)
set_option maxRecDepth 20000 in
theorem se_X11_isSight : Cond.selects yX11_isSight.cls yX11_isSight yX11_isSight ∈ ai_T := ai_inS (n := 15) 0 rfl
abbrev MX11_hasBoth : ai_M := (yX11_hasBoth, cX11_hasBoth, 3, (some (.boolean)), 1, 21)
set_option maxRecDepth 20000 in
theorem mk_X11_hasBoth : ai_MK MX11_hasBoth 2 := ⟨(ai_in4 52 rfl rfl), (ai_in1 1 rfl rfl), by decide +kernel⟩
set_option maxRecDepth 20000 in
theorem in_X11_hasBoth : Cond.instanceMethod yX11_hasBoth ∈ ai_T := (ai_in4 51 rfl rfl)
set_option maxRecDepth 20000 in
theorem se_X11_hasBoth : Cond.selects yX11_hasBoth.cls yX11_hasBoth yX11_hasBoth ∈ ai_T := ai_inS (n := 15) 34 rfl
abbrev MX11_isPair : ai_M := (yX11_isPair, cX11_isPair, 3, (some (.boolean)), 2, 43)
set_option maxRecDepth 20000 in
theorem mk_X11_isPair : ai_MK MX11_isPair 2 := ⟨(ai_in4 48 rfl rfl), (ai_in1 1 rfl rfl), by decide +kernel⟩
set_option maxRecDepth 20000 in
theorem in_X11_isPair : Cond.instanceMethod yX11_isPair ∈ ai_T := (ai_in4 47 rfl rfl)
set_option maxRecDepth 20000 in
theorem se_X11_isPair : Cond.selects yX11_isPair.cls yX11_isPair yX11_isPair ∈ ai_T := ai_inS (n := 15) 33 rfl
abbrev MX11_lawOf : ai_M := (yX11_lawOf, cX11_lawOf, 2, (some (.object "EachLater$Law")), 1, 22)
set_option maxRecDepth 20000 in
theorem mk_X11_lawOf : ai_MK MX11_lawOf 1 := ⟨(ai_in3 226 rfl rfl), (ai_in1 1 rfl rfl), by decide +kernel⟩
set_option maxRecDepth 20000 in
theorem in_X11_lawOf : Cond.instanceMethod yX11_lawOf ∈ ai_T := (ai_in3 225 rfl rfl)
set_option maxRecDepth 20000 in
theorem se_X11_lawOf : Cond.selects yX11_lawOf.cls yX11_lawOf yX11_lawOf ∈ ai_T := ai_inS (n := 15) 29 rfl
abbrev MX11_feedNumber : ai_M := (yX11_feedNumber, cX11_feedNumber, 3, none, 0, 0)
set_option maxRecDepth 20000 in
theorem mk_X11_feedNumber : ai_MK MX11_feedNumber 1 := ⟨(ai_in2 221 rfl rfl), (ai_in1 1 rfl rfl), by decide +kernel⟩
set_option maxRecDepth 20000 in
theorem in_X11_feedNumber : Cond.instanceMethod yX11_feedNumber ∈ ai_T := (ai_in2 220 rfl rfl)
set_option maxRecDepth 20000 in
theorem se_X11_feedNumber : Cond.selects yX11_feedNumber.cls yX11_feedNumber yX11_feedNumber ∈ ai_T := ai_inS (n := 15) 2 rfl
abbrev MX11_tallySeen : ai_M := (yX11_tallySeen, cX11_tallySeen, 8, none, 2, 45)
set_option maxRecDepth 20000 in
theorem mk_X11_tallySeen : ai_MK MX11_tallySeen 5 := ⟨(ai_in2 190 rfl rfl), (ai_in1 1 rfl rfl), by decide +kernel⟩
set_option maxRecDepth 20000 in
theorem in_X11_tallySeen : Cond.instanceMethod yX11_tallySeen ∈ ai_T := (ai_in2 189 rfl rfl)
set_option maxRecDepth 20000 in
theorem se_X11_tallySeen : Cond.selects yX11_tallySeen.cls yX11_tallySeen yX11_tallySeen ∈ ai_T := ai_inS (n := 15) 1 rfl
abbrev MX11_tallyOwn : ai_M := (yX11_tallyOwn, cX11_tallyOwn, 5, none, 3, 68)
set_option maxRecDepth 20000 in
theorem mk_X11_tallyOwn : ai_MK MX11_tallyOwn 3 := ⟨(ai_in4 211 rfl rfl), (ai_in1 1 rfl rfl), by decide +kernel⟩
set_option maxRecDepth 20000 in
theorem in_X11_tallyOwn : Cond.instanceMethod yX11_tallyOwn ∈ ai_T := (ai_in4 210 rfl rfl)
set_option maxRecDepth 20000 in
theorem se_X11_tallyOwn : Cond.selects yX11_tallyOwn.cls yX11_tallyOwn yX11_tallyOwn ∈ ai_T := ai_inS (n := 15) 47 rfl
abbrev MX11_measure : ai_M := (yX11_measure, cX11_measure, 2, none, 5, 121)
set_option maxRecDepth 20000 in
theorem mk_X11_measure : ai_MK MX11_measure 1 := ⟨(ai_in4 57 rfl rfl), (ai_in1 1 rfl rfl), by decide +kernel⟩
set_option maxRecDepth 20000 in
theorem in_X11_measure : Cond.instanceMethod yX11_measure ∈ ai_T := (ai_in4 56 rfl rfl)
set_option maxRecDepth 20000 in
theorem se_X11_measure : Cond.selects yX11_measure.cls yX11_measure yX11_measure ∈ ai_T := ai_inS (n := 15) 35 rfl
abbrev MX11_tie : ai_M := (yX11_tie, cX11_tie, 3, none, 5, 121)
set_option maxRecDepth 20000 in
theorem mk_X11_tie : ai_MK MX11_tie 2 := ⟨(ai_in4 143 rfl rfl), (ai_in1 1 rfl rfl), by decide +kernel⟩
set_option maxRecDepth 20000 in
theorem in_X11_tie : Cond.instanceMethod yX11_tie ∈ ai_T := (ai_in4 142 rfl rfl)
set_option maxRecDepth 20000 in
theorem se_X11_tie : Cond.selects yX11_tie.cls yX11_tie yX11_tie ∈ ai_T := ai_inS (n := 15) 42 rfl
abbrev MX11_leftBy : ai_M := (yX11_leftBy, cX11_leftBy, 9, (some (.long)), 5, 116)
set_option maxRecDepth 20000 in
theorem mk_X11_leftBy : ai_MK MX11_leftBy 3 := ⟨(ai_in4 235 rfl rfl), (ai_in1 1 rfl rfl), by decide +kernel⟩
set_option maxRecDepth 20000 in
theorem in_X11_leftBy : Cond.instanceMethod yX11_leftBy ∈ ai_T := (ai_in4 234 rfl rfl)
set_option maxRecDepth 20000 in
theorem se_X11_leftBy : Cond.selects yX11_leftBy.cls yX11_leftBy yX11_leftBy ∈ ai_T := ai_inS (n := 15) 48 rfl
abbrev MX11_leastLeft : ai_M := (yX11_leastLeft, cX11_leastLeft, 6, (some (.int)), 6, 144)
set_option maxRecDepth 20000 in
theorem mk_X11_leastLeft : ai_MK MX11_leastLeft 2 := ⟨(ai_in5 4 rfl rfl), (ai_in1 1 rfl rfl), by decide +kernel⟩
set_option maxRecDepth 20000 in
theorem in_X11_leastLeft : Cond.instanceMethod yX11_leastLeft ∈ ai_T := (ai_in5 3 rfl rfl)
set_option maxRecDepth 20000 in
theorem se_X11_leastLeft : Cond.selects yX11_leastLeft.cls yX11_leastLeft yX11_leastLeft ∈ ai_T := ai_inS (n := 15) 49 rfl
abbrev MX11_stillBits : ai_M := (yX11_stillBits, cX11_stillBits, 5, (some (.int)), 0, 0)
set_option maxRecDepth 20000 in
theorem mk_X11_stillBits : ai_MK MX11_stillBits 1 := ⟨(ai_in5 9 rfl rfl), (ai_in1 1 rfl rfl), by decide +kernel⟩
set_option maxRecDepth 20000 in
theorem in_X11_stillBits : Cond.instanceMethod yX11_stillBits ∈ ai_T := (ai_in5 8 rfl rfl)
set_option maxRecDepth 20000 in
theorem se_X11_stillBits : Cond.selects yX11_stillBits.cls yX11_stillBits yX11_stillBits ∈ ai_T := ai_inS (n := 15) 50 rfl
abbrev MX11_tallyHouses : ai_M := (yX11_tallyHouses, cX11_tallyHouses, 6, none, 6, 142)
set_option maxRecDepth 20000 in
theorem mk_X11_tallyHouses : ai_MK MX11_tallyHouses 3 := ⟨(ai_in5 45 rfl rfl), (ai_in1 1 rfl rfl), by decide +kernel⟩
set_option maxRecDepth 20000 in
theorem in_X11_tallyHouses : Cond.instanceMethod yX11_tallyHouses ∈ ai_T := (ai_in5 44 rfl rfl)
set_option maxRecDepth 20000 in
theorem se_X11_tallyHouses : Cond.selects yX11_tallyHouses.cls yX11_tallyHouses yX11_tallyHouses ∈ ai_T := ai_inS (n := 15) 51 rfl
abbrev MX11_isOfHouse : ai_M := (yX11_isOfHouse, cX11_isOfHouse, 3, (some (.boolean)), 2, 42)
set_option maxRecDepth 20000 in
theorem mk_X11_isOfHouse : ai_MK MX11_isOfHouse 2 := ⟨(ai_in5 53 rfl rfl), (ai_in1 1 rfl rfl), by decide +kernel⟩
set_option maxRecDepth 20000 in
theorem in_X11_isOfHouse : Cond.instanceMethod yX11_isOfHouse ∈ ai_T := (ai_in5 52 rfl rfl)
set_option maxRecDepth 20000 in
theorem se_X11_isOfHouse : Cond.selects yX11_isOfHouse.cls yX11_isOfHouse yX11_isOfHouse ∈ ai_T := ai_inS (n := 15) 52 rfl
abbrev MX11_tallyAcross : ai_M := (yX11_tallyAcross, cX11_tallyAcross, 7, none, 3, 64)
set_option maxRecDepth 20000 in
theorem mk_X11_tallyAcross : ai_MK MX11_tallyAcross 2 := ⟨(ai_in5 58 rfl rfl), (ai_in1 1 rfl rfl), by decide +kernel⟩
set_option maxRecDepth 20000 in
theorem in_X11_tallyAcross : Cond.instanceMethod yX11_tallyAcross ∈ ai_T := (ai_in5 57 rfl rfl)
set_option maxRecDepth 20000 in
theorem se_X11_tallyAcross : Cond.selects yX11_tallyAcross.cls yX11_tallyAcross yX11_tallyAcross ∈ ai_T := ai_inS (n := 15) 53 rfl
abbrev MX11_allJourneys : ai_M := (yX11_allJourneys, cX11_allJourneys, 1, (some (.int)), 0, 0)
set_option maxRecDepth 20000 in
theorem mk_X11_allJourneys : ai_MK MX11_allJourneys 0 := ⟨(ai_in5 74 rfl rfl), (ai_in1 1 rfl rfl), by decide +kernel⟩
set_option maxRecDepth 20000 in
theorem in_X11_allJourneys : Cond.instanceMethod yX11_allJourneys ∈ ai_T := (ai_in5 73 rfl rfl)
set_option maxRecDepth 20000 in
theorem se_X11_allJourneys : Cond.selects yX11_allJourneys.cls yX11_allJourneys yX11_allJourneys ∈ ai_T := ai_inS (n := 15) 54 rfl
abbrev MX11_weeksOf : ai_M := (yX11_weeksOf, cX11_weeksOf, 4, (some (.int)), 1, 23)
set_option maxRecDepth 20000 in
theorem mk_X11_weeksOf : ai_MK MX11_weeksOf 1 := ⟨(ai_in5 109 rfl rfl), (ai_in1 1 rfl rfl), by decide +kernel⟩
set_option maxRecDepth 20000 in
theorem in_X11_weeksOf : Cond.instanceMethod yX11_weeksOf ∈ ai_T := (ai_in5 108 rfl rfl)
set_option maxRecDepth 20000 in
theorem se_X11_weeksOf : Cond.selects yX11_weeksOf.cls yX11_weeksOf yX11_weeksOf ∈ ai_T := ai_inS (n := 15) 58 rfl
abbrev MX11_bestSet : ai_M := (yX11_bestSet, cX11_bestSet, 8, (some (.int)), 4, 92)
set_option maxRecDepth 20000 in
theorem mk_X11_bestSet : ai_MK MX11_bestSet 1 := ⟨(ai_in5 105 rfl rfl), (ai_in1 1 rfl rfl), by decide +kernel⟩
set_option maxRecDepth 20000 in
theorem in_X11_bestSet : Cond.instanceMethod yX11_bestSet ∈ ai_T := (ai_in5 104 rfl rfl)
set_option maxRecDepth 20000 in
theorem se_X11_bestSet : Cond.selects yX11_bestSet.cls yX11_bestSet yX11_bestSet ∈ ai_T := ai_inS (n := 15) 57 rfl
abbrev MX11_waysWithHeads : ai_M := (yX11_waysWithHeads, cX11_waysWithHeads, 7, (some (.long)), 0, 0)
set_option maxRecDepth 20000 in
theorem mk_X11_waysWithHeads : ai_MK MX11_waysWithHeads 2 := ⟨(ai_in5 135 rfl rfl), (ai_in1 1 rfl rfl), by decide +kernel⟩
set_option maxRecDepth 20000 in
theorem st_X11_waysWithHeads : Cond.static yX11_waysWithHeads ∈ ai_T := (ai_in5 134 rfl rfl)
abbrev MX11_ownLeanTenths : ai_M := (yX11_ownLeanTenths, cX11_ownLeanTenths, 3, (some (.int)), 5, 116)
set_option maxRecDepth 20000 in
theorem mk_X11_ownLeanTenths : ai_MK MX11_ownLeanTenths 1 := ⟨(ai_in5 151 rfl rfl), (ai_in1 1 rfl rfl), by decide +kernel⟩
set_option maxRecDepth 20000 in
theorem in_X11_ownLeanTenths : Cond.instanceMethod yX11_ownLeanTenths ∈ ai_T := (ai_in5 150 rfl rfl)
set_option maxRecDepth 20000 in
theorem se_X11_ownLeanTenths : Cond.selects yX11_ownLeanTenths.cls yX11_ownLeanTenths yX11_ownLeanTenths ∈ ai_T := ai_inS (n := 15) 59 rfl
abbrev MX12_init : ai_M := (yX12_init, cX12_init, 2, none, 1, 20)
set_option maxRecDepth 20000 in
theorem mk_X12_init : ai_MK MX12_init 0 := ⟨(ai_in5 209 rfl rfl), (ai_in1 12 rfl rfl), by decide +kernel⟩
set_option maxRecDepth 20000 in
theorem in_X12_init : Cond.instanceMethod yX12_init ∈ ai_T := (ai_in5 208 rfl rfl)
abbrev MX12_in : ai_M := (yX12_in, cX12_in, 6, (some (.boolean)), 0, 0)
set_option maxRecDepth 20000 in
theorem mk_X12_in : ai_MK MX12_in 3 := ⟨(ai_in6 198 rfl rfl), (ai_in1 12 rfl rfl), by decide +kernel⟩
set_option maxRecDepth 20000 in
theorem st_X12_in : Cond.static yX12_in ∈ ai_T := (ai_in6 197 rfl rfl)
abbrev MX12_isWeek : ai_M := (yX12_isWeek, cX12_isWeek, 1, (some (.boolean)), 1, 25)
set_option maxRecDepth 20000 in
theorem mk_X12_isWeek : ai_MK MX12_isWeek 1 := ⟨(ai_in7 9 rfl rfl), (ai_in1 12 rfl rfl), by decide +kernel⟩
set_option maxRecDepth 20000 in
theorem st_X12_isWeek : Cond.static yX12_isWeek ∈ ai_T := (ai_in7 8 rfl rfl)
abbrev MX12_floorOf : ai_M := (yX12_floorOf, cX12_floorOf, 6, (some (.long)), 0, 0)
set_option maxRecDepth 20000 in
theorem mk_X12_floorOf : ai_MK MX12_floorOf 2 := ⟨(ai_in7 190 rfl rfl), (ai_in1 12 rfl rfl), by decide +kernel⟩
set_option maxRecDepth 20000 in
theorem st_X12_floorOf : Cond.static yX12_floorOf ∈ ai_T := (ai_in7 189 rfl rfl)
abbrev MX12_clock : ai_M := (yX12_clock, cX12_clock, 2, (some (.boolean)), 1, 25)
set_option maxRecDepth 20000 in
theorem mk_X12_clock : ai_MK MX12_clock 1 := ⟨(ai_in6 194 rfl rfl), (ai_in1 12 rfl rfl), by decide +kernel⟩
set_option maxRecDepth 20000 in
theorem in_X12_clock : Cond.instanceMethod yX12_clock ∈ ai_T := (ai_in6 192 rfl rfl)
set_option maxRecDepth 20000 in
theorem se_X12_clock : Cond.selects yX12_clock.cls yX12_clock yX12_clock ∈ ai_T := (ai_in6 193 rfl rfl)
abbrev MX12_isObserver : ai_M := (yX12_isObserver, cX12_isObserver, 2, (some (.boolean)), 1, 25)
set_option maxRecDepth 20000 in
theorem mk_X12_isObserver : ai_MK MX12_isObserver 1 := ⟨(ai_in6 231 rfl rfl), (ai_in1 12 rfl rfl), by decide +kernel⟩
set_option maxRecDepth 20000 in
theorem in_X12_isObserver : Cond.instanceMethod yX12_isObserver ∈ ai_T := (ai_in6 230 rfl rfl)
set_option maxRecDepth 20000 in
theorem se_X12_isObserver : Cond.selects yX12_isObserver.cls yX12_isObserver yX12_isObserver ∈ ai_T := ai_inS (n := 73) 64 rfl
abbrev MX12_isStar : ai_M := (yX12_isStar, cX12_isStar, 2, (some (.boolean)), 1, 25)
set_option maxRecDepth 20000 in
theorem mk_X12_isStar : ai_MK MX12_isStar 1 := ⟨(ai_in6 226 rfl rfl), (ai_in1 12 rfl rfl), by decide +kernel⟩
set_option maxRecDepth 20000 in
theorem in_X12_isStar : Cond.instanceMethod yX12_isStar ∈ ai_T := (ai_in6 225 rfl rfl)
set_option maxRecDepth 20000 in
theorem se_X12_isStar : Cond.selects yX12_isStar.cls yX12_isStar yX12_isStar ∈ ai_T := ai_inS (n := 73) 63 rfl
abbrev MX12_isNight : ai_M := (yX12_isNight, cX12_isNight, 2, (some (.boolean)), 1, 25)
set_option maxRecDepth 20000 in
theorem mk_X12_isNight : ai_MK MX12_isNight 1 := ⟨(ai_in6 222 rfl rfl), (ai_in1 12 rfl rfl), by decide +kernel⟩
set_option maxRecDepth 20000 in
theorem in_X12_isNight : Cond.instanceMethod yX12_isNight ∈ ai_T := (ai_in6 221 rfl rfl)
set_option maxRecDepth 20000 in
theorem se_X12_isNight : Cond.selects yX12_isNight.cls yX12_isNight yX12_isNight ∈ ai_T := ai_inS (n := 73) 62 rfl
abbrev MX12_isRecord : ai_M := (yX12_isRecord, cX12_isRecord, 2, (some (.boolean)), 1, 25)
set_option maxRecDepth 20000 in
theorem mk_X12_isRecord : ai_MK MX12_isRecord 1 := ⟨(ai_in7 2 rfl rfl), (ai_in1 12 rfl rfl), by decide +kernel⟩
set_option maxRecDepth 20000 in
theorem in_X12_isRecord : Cond.instanceMethod yX12_isRecord ∈ ai_T := (ai_in7 1 rfl rfl)
set_option maxRecDepth 20000 in
theorem se_X12_isRecord : Cond.selects yX12_isRecord.cls yX12_isRecord yX12_isRecord ∈ ai_T := ai_inS (n := 73) 65 rfl
abbrev MX12_isWay : ai_M := (yX12_isWay, cX12_isWay, 1, (some (.boolean)), 1, 25)
set_option maxRecDepth 20000 in
theorem mk_X12_isWay : ai_MK MX12_isWay 1 := ⟨(ai_in6 234 rfl rfl), (ai_in1 12 rfl rfl), by decide +kernel⟩
set_option maxRecDepth 20000 in
theorem st_X12_isWay : Cond.static yX12_isWay ∈ ai_T := (ai_in6 233 rfl rfl)
abbrev MX12_observer : ai_M := (yX12_observer, cX12_observer, 2, (some (.int)), 1, 25)
set_option maxRecDepth 20000 in
theorem mk_X12_observer : ai_MK MX12_observer 1 := ⟨(ai_in6 202 rfl rfl), (ai_in1 12 rfl rfl), by decide +kernel⟩
set_option maxRecDepth 20000 in
theorem in_X12_observer : Cond.instanceMethod yX12_observer ∈ ai_T := (ai_in6 200 rfl rfl)
set_option maxRecDepth 20000 in
theorem se_X12_observer : Cond.selects yX12_observer.cls yX12_observer yX12_observer ∈ ai_T := (ai_in6 201 rfl rfl)
abbrev MX12_star : ai_M := (yX12_star, cX12_star, 4, (some (.int)), 1, 25)
set_option maxRecDepth 20000 in
theorem mk_X12_star : ai_MK MX12_star 3 := ⟨(ai_in6 207 rfl rfl), (ai_in1 12 rfl rfl), by decide +kernel⟩
set_option maxRecDepth 20000 in
theorem in_X12_star : Cond.instanceMethod yX12_star ∈ ai_T := (ai_in6 205 rfl rfl)
set_option maxRecDepth 20000 in
theorem se_X12_star : Cond.selects yX12_star.cls yX12_star yX12_star ∈ ai_T := (ai_in6 206 rfl rfl)
abbrev MX12_night : ai_M := (yX12_night, cX12_night, 3, (some (.int)), 1, 25)
set_option maxRecDepth 20000 in
theorem mk_X12_night : ai_MK MX12_night 2 := ⟨(ai_in6 213 rfl rfl), (ai_in1 12 rfl rfl), by decide +kernel⟩
set_option maxRecDepth 20000 in
theorem in_X12_night : Cond.instanceMethod yX12_night ∈ ai_T := (ai_in6 211 rfl rfl)
set_option maxRecDepth 20000 in
theorem se_X12_night : Cond.selects yX12_night.cls yX12_night yX12_night ∈ ai_T := (ai_in6 212 rfl rfl)
abbrev MX12_record : ai_M := (yX12_record, cX12_record, 8, (some (.int)), 2, 46)
set_option maxRecDepth 20000 in
theorem mk_X12_record : ai_MK MX12_record 7 := ⟨(ai_in6 218 rfl rfl), (ai_in1 12 rfl rfl), by decide +kernel⟩
set_option maxRecDepth 20000 in
theorem in_X12_record : Cond.instanceMethod yX12_record ∈ ai_T := (ai_in6 216 rfl rfl)
set_option maxRecDepth 20000 in
theorem se_X12_record : Cond.selects yX12_record.cls yX12_record yX12_record ∈ ai_T := (ai_in6 217 rfl rfl)
abbrev MX12_strike : ai_M := (yX12_strike, cX12_strike, 2, (some (.boolean)), 2, 46)
set_option maxRecDepth 20000 in
theorem mk_X12_strike : ai_MK MX12_strike 1 := ⟨(ai_in6 238 rfl rfl), (ai_in1 12 rfl rfl), by decide +kernel⟩
set_option maxRecDepth 20000 in
theorem in_X12_strike : Cond.instanceMethod yX12_strike ∈ ai_T := (ai_in6 236 rfl rfl)
set_option maxRecDepth 20000 in
theorem se_X12_strike : Cond.selects yX12_strike.cls yX12_strike yX12_strike ∈ ai_T := (ai_in6 237 rfl rfl)
abbrev MX12_counts : ai_M := (yX12_counts, cX12_counts, 3, (some (.boolean)), 0, 0)
set_option maxRecDepth 20000 in
theorem mk_X12_counts : ai_MK MX12_counts 2 := ⟨(ai_in7 14 rfl rfl), (ai_in1 12 rfl rfl), by decide +kernel⟩
set_option maxRecDepth 20000 in
theorem in_X12_counts : Cond.instanceMethod yX12_counts ∈ ai_T := (ai_in7 13 rfl rfl)
set_option maxRecDepth 20000 in
theorem se_X12_counts : Cond.selects yX12_counts.cls yX12_counts yX12_counts ∈ ai_T := ai_inS (n := 73) 66 rfl
abbrev MX12_threaded : ai_M := (yX12_threaded, cX12_threaded, 2, (some (.int)), 0, 0)
set_option maxRecDepth 20000 in
theorem mk_X12_threaded : ai_MK MX12_threaded 1 := ⟨(ai_in7 22 rfl rfl), (ai_in1 12 rfl rfl), by decide +kernel⟩
set_option maxRecDepth 20000 in
theorem in_X12_threaded : Cond.instanceMethod yX12_threaded ∈ ai_T := (ai_in7 21 rfl rfl)
set_option maxRecDepth 20000 in
theorem se_X12_threaded : Cond.selects yX12_threaded.cls yX12_threaded yX12_threaded ∈ ai_T := ai_inS (n := 73) 68 rfl
abbrev MX12_reduced : ai_M := (yX12_reduced, cX12_reduced, 2, (some (.int)), 1, 21)
set_option maxRecDepth 20000 in
theorem mk_X12_reduced : ai_MK MX12_reduced 1 := ⟨(ai_in7 18 rfl rfl), (ai_in1 12 rfl rfl), by decide +kernel⟩
set_option maxRecDepth 20000 in
theorem in_X12_reduced : Cond.instanceMethod yX12_reduced ∈ ai_T := (ai_in7 17 rfl rfl)
set_option maxRecDepth 20000 in
theorem se_X12_reduced : Cond.selects yX12_reduced.cls yX12_reduced yX12_reduced ∈ ai_T := ai_inS (n := 73) 67 rfl
abbrev MX12_seen : ai_M := (yX12_seen, cX12_seen, 10, (some (.int)), 2, 46)
set_option maxRecDepth 20000 in
theorem mk_X12_seen : ai_MK MX12_seen 6 := ⟨(ai_in7 6 rfl rfl), (ai_in1 12 rfl rfl), by decide +kernel⟩
set_option maxRecDepth 20000 in
theorem in_X12_seen : Cond.instanceMethod yX12_seen ∈ ai_T := (ai_in7 4 rfl rfl)
set_option maxRecDepth 20000 in
theorem se_X12_seen : Cond.selects yX12_seen.cls yX12_seen yX12_seen ∈ ai_T := (ai_in7 5 rfl rfl)
abbrev MX12_feed : ai_M := (yX12_feed, cX12_feed, 6, (some (.int)), 1, 22)
set_option maxRecDepth 20000 in
theorem mk_X12_feed : ai_MK MX12_feed 5 := ⟨(ai_in7 26 rfl rfl), (ai_in1 12 rfl rfl), by decide +kernel⟩
set_option maxRecDepth 20000 in
theorem in_X12_feed : Cond.instanceMethod yX12_feed ∈ ai_T := (ai_in7 24 rfl rfl)
set_option maxRecDepth 20000 in
theorem se_X12_feed : Cond.selects yX12_feed.cls yX12_feed yX12_feed ∈ ai_T := (ai_in7 25 rfl rfl)
abbrev MX12_put : ai_M := (yX12_put, cX12_put, 3, none, 0, 0)
set_option maxRecDepth 20000 in
theorem mk_X12_put : ai_MK MX12_put 1 := ⟨(ai_in7 30 rfl rfl), (ai_in1 12 rfl rfl), by decide +kernel⟩
set_option maxRecDepth 20000 in
theorem in_X12_put : Cond.instanceMethod yX12_put ∈ ai_T := (ai_in7 29 rfl rfl)
set_option maxRecDepth 20000 in
theorem se_X12_put : Cond.selects yX12_put.cls yX12_put yX12_put ∈ ai_T := ai_inS (n := 73) 69 rfl
abbrev MX12_end : ai_M := (yX12_end, cX12_end, 2, (some (.int)), 0, 0)
set_option maxRecDepth 20000 in
theorem mk_X12_end : ai_MK MX12_end 1 := ⟨(ai_in7 34 rfl rfl), (ai_in1 12 rfl rfl), by decide +kernel⟩
set_option maxRecDepth 20000 in
theorem in_X12_end : Cond.instanceMethod yX12_end ∈ ai_T := (ai_in7 32 rfl rfl)
set_option maxRecDepth 20000 in
theorem se_X12_end : Cond.selects yX12_end.cls yX12_end yX12_end ∈ ai_T := (ai_in7 33 rfl rfl)
abbrev MX12_wordOf : ai_M := (yX12_wordOf, cX12_wordOf, 1, (some (.object "java/lang/String")), 0, 0)
set_option maxRecDepth 20000 in
theorem mk_X12_wordOf : ai_MK MX12_wordOf 1 := ⟨(ai_in7 95 rfl rfl), (ai_in1 12 rfl rfl), by decide +kernel⟩
set_option maxRecDepth 20000 in
theorem st_X12_wordOf : Cond.static yX12_wordOf ∈ ai_T := (ai_in7 94 rfl rfl)
abbrev MX12_fails : ai_M := (yX12_fails, cX12_fails, 3, none, 0, 0)
set_option maxRecDepth 20000 in
theorem mk_X12_fails : ai_MK MX12_fails 2 := ⟨(ai_in7 61 rfl rfl), (ai_in1 12 rfl rfl), by decide +kernel⟩
set_option maxRecDepth 20000 in
theorem in_X12_fails : Cond.instanceMethod yX12_fails ∈ ai_T := (ai_in7 60 rfl rfl)
set_option maxRecDepth 20000 in
theorem se_X12_fails : Cond.selects yX12_fails.cls yX12_fails yX12_fails ∈ ai_T := ai_inS (n := 73) 74 rfl
abbrev MX12_sign : ai_M := (yX12_sign, cX12_sign, 1, (some (.int)), 0, 0)
set_option maxRecDepth 20000 in
theorem mk_X12_sign : ai_MK MX12_sign 0 := ⟨(ai_in7 50 rfl rfl), (ai_in1 12 rfl rfl), by decide +kernel⟩
set_option maxRecDepth 20000 in
theorem in_X12_sign : Cond.instanceMethod yX12_sign ∈ ai_T := (ai_in7 49 rfl rfl)
set_option maxRecDepth 20000 in
theorem se_X12_sign : Cond.selects yX12_sign.cls yX12_sign yX12_sign ∈ ai_T := ai_inS (n := 73) 72 rfl
abbrev MX12_blanks : ai_M := (yX12_blanks, cX12_blanks, 1, none, 1, 20)
set_option maxRecDepth 20000 in
theorem mk_X12_blanks : ai_MK MX12_blanks 0 := ⟨(ai_in7 46 rfl rfl), (ai_in1 12 rfl rfl), by decide +kernel⟩
set_option maxRecDepth 20000 in
theorem in_X12_blanks : Cond.instanceMethod yX12_blanks ∈ ai_T := (ai_in7 45 rfl rfl)
set_option maxRecDepth 20000 in
theorem se_X12_blanks : Cond.selects yX12_blanks.cls yX12_blanks yX12_blanks ∈ ai_T := ai_inS (n := 73) 71 rfl
abbrev MX12_isDigit : ai_M := (yX12_isDigit, cX12_isDigit, 1, (some (.boolean)), 1, 25)
set_option maxRecDepth 20000 in
theorem mk_X12_isDigit : ai_MK MX12_isDigit 0 := ⟨(ai_in7 77 rfl rfl), (ai_in1 12 rfl rfl), by decide +kernel⟩
set_option maxRecDepth 20000 in
theorem in_X12_isDigit : Cond.instanceMethod yX12_isDigit ∈ ai_T := (ai_in7 76 rfl rfl)
set_option maxRecDepth 20000 in
theorem se_X12_isDigit : Cond.selects yX12_isDigit.cls yX12_isDigit yX12_isDigit ∈ ai_T := ai_inS (n := 73) 78 rfl
abbrev MX12_stands : ai_M := (yX12_stands, cX12_stands, 5, (some (.boolean)), 5, 106)
set_option maxRecDepth 20000 in
theorem mk_X12_stands : ai_MK MX12_stands 1 := ⟨(ai_in7 55 rfl rfl), (ai_in1 12 rfl rfl), by decide +kernel⟩
set_option maxRecDepth 20000 in
theorem in_X12_stands : Cond.instanceMethod yX12_stands ∈ ai_T := (ai_in7 54 rfl rfl)
set_option maxRecDepth 20000 in
theorem se_X12_stands : Cond.selects yX12_stands.cls yX12_stands yX12_stands ∈ ai_T := ai_inS (n := 73) 73 rfl
abbrev MX12_takes : ai_M := (yX12_takes, cX12_takes, 3, (some (.boolean)), 6, 130)
set_option maxRecDepth 20000 in
theorem mk_X12_takes : ai_MK MX12_takes 1 := ⟨(ai_in7 110 rfl rfl), (ai_in1 12 rfl rfl), by decide +kernel⟩
set_option maxRecDepth 20000 in
theorem in_X12_takes : Cond.instanceMethod yX12_takes ∈ ai_T := (ai_in7 109 rfl rfl)
set_option maxRecDepth 20000 in
theorem se_X12_takes : Cond.selects yX12_takes.cls yX12_takes yX12_takes ∈ ai_T := ai_inS (n := 73) 82 rfl
abbrev MX12_entry : ai_M := (yX12_entry, cX12_entry, 3, none, 0, 0)
set_option maxRecDepth 20000 in
theorem mk_X12_entry : ai_MK MX12_entry 2 := ⟨(ai_in7 92 rfl rfl), (ai_in1 12 rfl rfl), by decide +kernel⟩
set_option maxRecDepth 20000 in
theorem in_X12_entry : Cond.instanceMethod yX12_entry ∈ ai_T := (ai_in7 91 rfl rfl)
set_option maxRecDepth 20000 in
theorem se_X12_entry : Cond.selects yX12_entry.cls yX12_entry yX12_entry ∈ ai_T := ai_inS (n := 73) 81 rfl
abbrev MX12_isCounted : ai_M := (yX12_isCounted, cX12_isCounted, 2, none, 1, 22)
set_option maxRecDepth 20000 in
theorem mk_X12_isCounted : ai_MK MX12_isCounted 1 := ⟨(ai_in7 88 rfl rfl), (ai_in1 12 rfl rfl), by decide +kernel⟩
set_option maxRecDepth 20000 in
theorem in_X12_isCounted : Cond.instanceMethod yX12_isCounted ∈ ai_T := (ai_in7 87 rfl rfl)
set_option maxRecDepth 20000 in
theorem se_X12_isCounted : Cond.selects yX12_isCounted.cls yX12_isCounted yX12_isCounted ∈ ai_T := ai_inS (n := 73) 80 rfl
abbrev MX12_digits : ai_M := (yX12_digits, cX12_digits, 4, (some (.int)), 2, 45)
set_option maxRecDepth 20000 in
theorem mk_X12_digits : ai_MK MX12_digits 1 := ⟨(ai_in7 84 rfl rfl), (ai_in1 12 rfl rfl), by decide +kernel⟩
set_option maxRecDepth 20000 in
theorem in_X12_digits : Cond.instanceMethod yX12_digits ∈ ai_T := (ai_in7 83 rfl rfl)
set_option maxRecDepth 20000 in
theorem se_X12_digits : Cond.selects yX12_digits.cls yX12_digits yX12_digits ∈ ai_T := ai_inS (n := 73) 79 rfl
abbrev MX12_value : ai_M := (yX12_value, cX12_value, 3, none, 6, 130)
set_option maxRecDepth 20000 in
theorem mk_X12_value : ai_MK MX12_value 0 := ⟨(ai_in7 73 rfl rfl), (ai_in1 12 rfl rfl), by decide +kernel⟩
set_option maxRecDepth 20000 in
theorem in_X12_value : Cond.instanceMethod yX12_value ∈ ai_T := (ai_in7 72 rfl rfl)
set_option maxRecDepth 20000 in
theorem se_X12_value : Cond.selects yX12_value.cls yX12_value yX12_value ∈ ai_T := ai_inS (n := 73) 77 rfl
abbrev MX12_term : ai_M := (yX12_term, cX12_term, 1, none, 7, 152)
set_option maxRecDepth 20000 in
theorem mk_X12_term : ai_MK MX12_term 0 := ⟨(ai_in7 69 rfl rfl), (ai_in1 12 rfl rfl), by decide +kernel⟩
set_option maxRecDepth 20000 in
theorem in_X12_term : Cond.instanceMethod yX12_term ∈ ai_T := (ai_in7 68 rfl rfl)
set_option maxRecDepth 20000 in
theorem se_X12_term : Cond.selects yX12_term.cls yX12_term yX12_term ∈ ai_T := ai_inS (n := 73) 76 rfl
abbrev MX12_sum : ai_M := (yX12_sum, cX12_sum, 2, none, 8, 172)
set_option maxRecDepth 20000 in
theorem mk_X12_sum : ai_MK MX12_sum 0 := ⟨(ai_in7 65 rfl rfl), (ai_in1 12 rfl rfl), by decide +kernel⟩
set_option maxRecDepth 20000 in
theorem in_X12_sum : Cond.instanceMethod yX12_sum ∈ ai_T := (ai_in7 64 rfl rfl)
set_option maxRecDepth 20000 in
theorem se_X12_sum : Cond.selects yX12_sum.cls yX12_sum yX12_sum ∈ ai_T := ai_inS (n := 73) 75 rfl
abbrev MX12_compared : ai_M := (yX12_compared, cX12_compared, 3, none, 9, 193)
set_option maxRecDepth 20000 in
theorem mk_X12_compared : ai_MK MX12_compared 0 := ⟨(ai_in7 127 rfl rfl), (ai_in1 12 rfl rfl), by decide +kernel⟩
set_option maxRecDepth 20000 in
theorem in_X12_compared : Cond.instanceMethod yX12_compared ∈ ai_T := (ai_in7 126 rfl rfl)
set_option maxRecDepth 20000 in
theorem se_X12_compared : Cond.selects yX12_compared.cls yX12_compared yX12_compared ∈ ai_T := ai_inS (n := 73) 86 rfl
abbrev MX12_top : ai_M := (yX12_top, cX12_top, 1, (some (.int)), 0, 0)
set_option maxRecDepth 20000 in
theorem mk_X12_top : ai_MK MX12_top 0 := ⟨(ai_in7 135 rfl rfl), (ai_in1 12 rfl rfl), by decide +kernel⟩
set_option maxRecDepth 20000 in
theorem in_X12_top : Cond.instanceMethod yX12_top ∈ ai_T := (ai_in7 134 rfl rfl)
set_option maxRecDepth 20000 in
theorem se_X12_top : Cond.selects yX12_top.cls yX12_top yX12_top ∈ ai_T := ai_inS (n := 73) 88 rfl
abbrev MX12_opens : ai_M := (yX12_opens, cX12_opens, 2, none, 1, 22)
set_option maxRecDepth 20000 in
theorem mk_X12_opens : ai_MK MX12_opens 1 := ⟨(ai_in7 123 rfl rfl), (ai_in1 12 rfl rfl), by decide +kernel⟩
set_option maxRecDepth 20000 in
theorem in_X12_opens : Cond.instanceMethod yX12_opens ∈ ai_T := (ai_in7 122 rfl rfl)
set_option maxRecDepth 20000 in
theorem se_X12_opens : Cond.selects yX12_opens.cls yX12_opens yX12_opens ∈ ai_T := ai_inS (n := 73) 85 rfl
abbrev MX12_answers : ai_M := (yX12_answers, cX12_answers, 2, none, 1, 22)
set_option maxRecDepth 20000 in
theorem mk_X12_answers : ai_MK MX12_answers 1 := ⟨(ai_in7 131 rfl rfl), (ai_in1 12 rfl rfl), by decide +kernel⟩
set_option maxRecDepth 20000 in
theorem in_X12_answers : Cond.instanceMethod yX12_answers ∈ ai_T := (ai_in7 130 rfl rfl)
set_option maxRecDepth 20000 in
theorem se_X12_answers : Cond.selects yX12_answers.cls yX12_answers yX12_answers ∈ ai_T := ai_inS (n := 73) 87 rfl
abbrev MX12_fact : ai_M := (yX12_fact, cX12_fact, 1, (some (.boolean)), 10, 215)
set_option maxRecDepth 20000 in
theorem mk_X12_fact : ai_MK MX12_fact 0 := ⟨(ai_in7 118 rfl rfl), (ai_in1 12 rfl rfl), by decide +kernel⟩
set_option maxRecDepth 20000 in
theorem in_X12_fact : Cond.instanceMethod yX12_fact ∈ ai_T := (ai_in7 117 rfl rfl)
set_option maxRecDepth 20000 in
theorem se_X12_fact : Cond.selects yX12_fact.cls yX12_fact yX12_fact ∈ ai_T := ai_inS (n := 73) 84 rfl
abbrev MX12_test : ai_M := (yX12_test, cX12_test, 5, none, 11, 235)
set_option maxRecDepth 20000 in
theorem mk_X12_test : ai_MK MX12_test 0 := ⟨(ai_in7 114 rfl rfl), (ai_in1 12 rfl rfl), by decide +kernel⟩
set_option maxRecDepth 20000 in
theorem in_X12_test : Cond.instanceMethod yX12_test ∈ ai_T := (ai_in7 113 rfl rfl)
set_option maxRecDepth 20000 in
theorem se_X12_test : Cond.selects yX12_test.cls yX12_test yX12_test ∈ ai_T := ai_inS (n := 73) 83 rfl
abbrev MX12_clause : ai_M := (yX12_clause, cX12_clause, 4, none, 12, 259)
set_option maxRecDepth 20000 in
theorem mk_X12_clause : ai_MK MX12_clause 1 := ⟨(ai_in7 42 rfl rfl), (ai_in1 12 rfl rfl), by decide +kernel⟩
set_option maxRecDepth 20000 in
theorem in_X12_clause : Cond.instanceMethod yX12_clause ∈ ai_T := (ai_in7 41 rfl rfl)
set_option maxRecDepth 20000 in
theorem se_X12_clause : Cond.selects yX12_clause.cls yX12_clause yX12_clause ∈ ai_T := ai_inS (n := 73) 70 rfl
abbrev MX12_law : ai_M := (yX12_law, cX12_law, 3, (some (.int)), 13, 282)
set_option maxRecDepth 20000 in
theorem mk_X12_law : ai_MK MX12_law 0 := ⟨(ai_in7 38 rfl rfl), (ai_in1 12 rfl rfl), by decide +kernel⟩
set_option maxRecDepth 20000 in
theorem in_X12_law : Cond.instanceMethod yX12_law ∈ ai_T := (ai_in7 36 rfl rfl)
set_option maxRecDepth 20000 in
theorem se_X12_law : Cond.selects yX12_law.cls yX12_law yX12_law ∈ ai_T := (ai_in7 37 rfl rfl)
abbrev MX12_isLaw : ai_M := (yX12_isLaw, cX12_isLaw, 2, (some (.boolean)), 1, 25)
set_option maxRecDepth 20000 in
theorem mk_X12_isLaw : ai_MK MX12_isLaw 1 := ⟨(ai_in7 145 rfl rfl), (ai_in1 12 rfl rfl), by decide +kernel⟩
set_option maxRecDepth 20000 in
theorem in_X12_isLaw : Cond.instanceMethod yX12_isLaw ∈ ai_T := (ai_in7 144 rfl rfl)
set_option maxRecDepth 20000 in
theorem se_X12_isLaw : Cond.selects yX12_isLaw.cls yX12_isLaw yX12_isLaw ∈ ai_T := ai_inS (n := 73) 89 rfl
abbrev MX12_truth : ai_M := (yX12_truth, cX12_truth, 1, (some (.long)), 0, 0)
set_option maxRecDepth 20000 in
theorem mk_X12_truth : ai_MK MX12_truth 1 := ⟨(ai_in7 159 rfl rfl), (ai_in1 12 rfl rfl), by decide +kernel⟩
set_option maxRecDepth 20000 in
theorem st_X12_truth : Cond.static yX12_truth ∈ ai_T := (ai_in7 158 rfl rfl)
abbrev MX12_both : ai_M := (yX12_both, cX12_both, 5, (some (.long)), 1, 20)
set_option maxRecDepth 20000 in
theorem mk_X12_both : ai_MK MX12_both 3 := ⟨(ai_in7 156 rfl rfl), (ai_in1 12 rfl rfl), by decide +kernel⟩
set_option maxRecDepth 20000 in
theorem st_X12_both : Cond.static yX12_both ∈ ai_T := (ai_in7 155 rfl rfl)
abbrev MX12_answer : ai_M := (yX12_answer, cX12_answer, 8, (some (.long)), 2, 44)
set_option maxRecDepth 20000 in
theorem mk_X12_answer : ai_MK MX12_answer 3 := ⟨(ai_in7 153 rfl rfl), (ai_in1 12 rfl rfl), by decide +kernel⟩
set_option maxRecDepth 20000 in
theorem in_X12_answer : Cond.instanceMethod yX12_answer ∈ ai_T := (ai_in7 152 rfl rfl)
set_option maxRecDepth 20000 in
theorem se_X12_answer : Cond.selects yX12_answer.cls yX12_answer yX12_answer ∈ ai_T := ai_inS (n := 73) 91 rfl
abbrev MX12_given : ai_M := (yX12_given, cX12_given, 9, (some (.long)), 3, 71)
set_option maxRecDepth 20000 in
theorem mk_X12_given : ai_MK MX12_given 2 := ⟨(ai_in7 149 rfl rfl), (ai_in1 12 rfl rfl), by decide +kernel⟩
set_option maxRecDepth 20000 in
theorem in_X12_given : Cond.instanceMethod yX12_given ∈ ai_T := (ai_in7 148 rfl rfl)
set_option maxRecDepth 20000 in
theorem se_X12_given : Cond.selects yX12_given.cls yX12_given yX12_given ∈ ai_T := ai_inS (n := 73) 90 rfl
abbrev MX12_gives : ai_M := (yX12_gives, cX12_gives, 3, (some (.int)), 4, 99)
set_option maxRecDepth 20000 in
theorem mk_X12_gives : ai_MK MX12_gives 2 := ⟨(ai_in7 141 rfl rfl), (ai_in1 12 rfl rfl), by decide +kernel⟩
set_option maxRecDepth 20000 in
theorem in_X12_gives : Cond.instanceMethod yX12_gives ∈ ai_T := (ai_in7 139 rfl rfl)
set_option maxRecDepth 20000 in
theorem se_X12_gives : Cond.selects yX12_gives.cls yX12_gives yX12_gives ∈ ai_T := (ai_in7 140 rfl rfl)
abbrev MX12_gathers : ai_M := (yX12_gathers, cX12_gathers, 6, none, 2, 42)
set_option maxRecDepth 20000 in
theorem mk_X12_gathers : ai_MK MX12_gathers 1 := ⟨(ai_in7 179 rfl rfl), (ai_in1 12 rfl rfl), by decide +kernel⟩
set_option maxRecDepth 20000 in
theorem in_X12_gathers : Cond.instanceMethod yX12_gathers ∈ ai_T := (ai_in7 178 rfl rfl)
set_option maxRecDepth 20000 in
theorem se_X12_gathers : Cond.selects yX12_gathers.cls yX12_gathers yX12_gathers ∈ ai_T := ai_inS (n := 73) 94 rfl
abbrev MX12_meet : ai_M := (yX12_meet, cX12_meet, 3, (some (.boolean)), 0, 0)
set_option maxRecDepth 20000 in
theorem mk_X12_meet : ai_MK MX12_meet 2 := ⟨(ai_in7 183 rfl rfl), (ai_in1 12 rfl rfl), by decide +kernel⟩
set_option maxRecDepth 20000 in
theorem in_X12_meet : Cond.instanceMethod yX12_meet ∈ ai_T := (ai_in7 182 rfl rfl)
set_option maxRecDepth 20000 in
theorem se_X12_meet : Cond.selects yX12_meet.cls yX12_meet yX12_meet ∈ ai_T := ai_inS (n := 73) 95 rfl
abbrev MX12_differ : ai_M := (yX12_differ, cX12_differ, 6, (some (.long)), 1, 25)
set_option maxRecDepth 20000 in
theorem mk_X12_differ : ai_MK MX12_differ 4 := ⟨(ai_in7 186 rfl rfl), (ai_in1 12 rfl rfl), by decide +kernel⟩
set_option maxRecDepth 20000 in
theorem st_X12_differ : Cond.static yX12_differ ∈ ai_T := (ai_in7 185 rfl rfl)
abbrev MX12_meets : ai_M := (yX12_meets, cX12_meets, 7, none, 3, 67)
set_option maxRecDepth 20000 in
theorem mk_X12_meets : ai_MK MX12_meets 1 := ⟨(ai_in7 175 rfl rfl), (ai_in1 12 rfl rfl), by decide +kernel⟩
set_option maxRecDepth 20000 in
theorem in_X12_meets : Cond.instanceMethod yX12_meets ∈ ai_T := (ai_in7 174 rfl rfl)
set_option maxRecDepth 20000 in
theorem se_X12_meets : Cond.selects yX12_meets.cls yX12_meets yX12_meets ∈ ai_T := ai_inS (n := 73) 93 rfl
abbrev MX12_apart : ai_M := (yX12_apart, cX12_apart, 2, (some (.long)), 1, 25)
set_option maxRecDepth 20000 in
theorem mk_X12_apart : ai_MK MX12_apart 1 := ⟨(ai_in7 194 rfl rfl), (ai_in1 12 rfl rfl), by decide +kernel⟩
set_option maxRecDepth 20000 in
theorem in_X12_apart : Cond.instanceMethod yX12_apart ∈ ai_T := (ai_in7 193 rfl rfl)
set_option maxRecDepth 20000 in
theorem se_X12_apart : Cond.selects yX12_apart.cls yX12_apart yX12_apart ∈ ai_T := ai_inS (n := 73) 96 rfl
abbrev MX12_span : ai_M := (yX12_span, cX12_span, 2, (some (.long)), 0, 0)
set_option maxRecDepth 20000 in
theorem mk_X12_span : ai_MK MX12_span 1 := ⟨(ai_in7 198 rfl rfl), (ai_in1 12 rfl rfl), by decide +kernel⟩
set_option maxRecDepth 20000 in
theorem in_X12_span : Cond.instanceMethod yX12_span ∈ ai_T := (ai_in7 197 rfl rfl)
set_option maxRecDepth 20000 in
theorem se_X12_span : Cond.selects yX12_span.cls yX12_span yX12_span ∈ ai_T := ai_inS (n := 73) 97 rfl
abbrev MX12_width : ai_M := (yX12_width, cX12_width, 2, (some (.long)), 1, 21)
set_option maxRecDepth 20000 in
theorem mk_X12_width : ai_MK MX12_width 1 := ⟨(ai_in7 202 rfl rfl), (ai_in1 12 rfl rfl), by decide +kernel⟩
set_option maxRecDepth 20000 in
theorem in_X12_width : Cond.instanceMethod yX12_width ∈ ai_T := (ai_in7 201 rfl rfl)
set_option maxRecDepth 20000 in
theorem se_X12_width : Cond.selects yX12_width.cls yX12_width yX12_width ∈ ai_T := ai_inS (n := 73) 98 rfl
abbrev MX12_areTwo : ai_M := (yX12_areTwo, cX12_areTwo, 4, (some (.boolean)), 2, 46)
set_option maxRecDepth 20000 in
theorem mk_X12_areTwo : ai_MK MX12_areTwo 3 := ⟨(ai_in7 170 rfl rfl), (ai_in1 12 rfl rfl), by decide +kernel⟩
set_option maxRecDepth 20000 in
theorem in_X12_areTwo : Cond.instanceMethod yX12_areTwo ∈ ai_T := (ai_in7 169 rfl rfl)
set_option maxRecDepth 20000 in
theorem se_X12_areTwo : Cond.selects yX12_areTwo.cls yX12_areTwo yX12_areTwo ∈ ai_T := ai_inS (n := 73) 92 rfl
abbrev MX12_two : ai_M := (yX12_two, cX12_two, 6, (some (.int)), 4, 93)
set_option maxRecDepth 20000 in
theorem mk_X12_two : ai_MK MX12_two 4 := ⟨(ai_in7 166 rfl rfl), (ai_in1 12 rfl rfl), by decide +kernel⟩
set_option maxRecDepth 20000 in
theorem in_X12_two : Cond.instanceMethod yX12_two ∈ ai_T := (ai_in7 164 rfl rfl)
set_option maxRecDepth 20000 in
theorem se_X12_two : Cond.selects yX12_two.cls yX12_two yX12_two ∈ ai_T := (ai_in7 165 rfl rfl)
abbrev MX12_ropes : ai_M := (yX12_ropes, cX12_ropes, 3, none, 4, 100)
set_option maxRecDepth 20000 in
theorem mk_X12_ropes : ai_MK MX12_ropes 1 := ⟨(ai_in7 211 rfl rfl), (ai_in1 12 rfl rfl), by decide +kernel⟩
set_option maxRecDepth 20000 in
theorem in_X12_ropes : Cond.instanceMethod yX12_ropes ∈ ai_T := (ai_in7 210 rfl rfl)
set_option maxRecDepth 20000 in
theorem se_X12_ropes : Cond.selects yX12_ropes.cls yX12_ropes yX12_ropes ∈ ai_T := ai_inS (n := 73) 99 rfl
abbrev MX12_ropesTo : ai_M := (yX12_ropesTo, cX12_ropesTo, 9, none, 3, 72)
set_option maxRecDepth 20000 in
theorem mk_X12_ropesTo : ai_MK MX12_ropesTo 1 := ⟨(ai_in7 215 rfl rfl), (ai_in1 12 rfl rfl), by decide +kernel⟩
set_option maxRecDepth 20000 in
theorem in_X12_ropesTo : Cond.instanceMethod yX12_ropesTo ∈ ai_T := (ai_in7 214 rfl rfl)
set_option maxRecDepth 20000 in
theorem se_X12_ropesTo : Cond.selects yX12_ropesTo.cls yX12_ropesTo yX12_ropesTo ∈ ai_T := ai_inS (n := 73) 100 rfl
abbrev MX12_isShorter : ai_M := (yX12_isShorter, cX12_isShorter, 11, (some (.boolean)), 2, 42)
set_option maxRecDepth 20000 in
theorem mk_X12_isShorter : ai_MK MX12_isShorter 3 := ⟨(ai_in7 219 rfl rfl), (ai_in1 12 rfl rfl), by decide +kernel⟩
set_option maxRecDepth 20000 in
theorem in_X12_isShorter : Cond.instanceMethod yX12_isShorter ∈ ai_T := (ai_in7 218 rfl rfl)
set_option maxRecDepth 20000 in
theorem se_X12_isShorter : Cond.selects yX12_isShorter.cls yX12_isShorter yX12_isShorter ∈ ai_T := ai_inS (n := 73) 101 rfl
abbrev MX12_rope : ai_M := (yX12_rope, cX12_rope, 6, (some (.int)), 5, 122)
set_option maxRecDepth 20000 in
theorem mk_X12_rope : ai_MK MX12_rope 4 := ⟨(ai_in7 206 rfl rfl), (ai_in1 12 rfl rfl), by decide +kernel⟩
set_option maxRecDepth 20000 in
theorem in_X12_rope : Cond.instanceMethod yX12_rope ∈ ai_T := (ai_in7 204 rfl rfl)
set_option maxRecDepth 20000 in
theorem se_X12_rope : Cond.selects yX12_rope.cls yX12_rope yX12_rope ∈ ai_T := (ai_in7 205 rfl rfl)
abbrev MX12_knot : ai_M := (yX12_knot, cX12_knot, 7, (some (.int)), 5, 122)
set_option maxRecDepth 20000 in
theorem mk_X12_knot : ai_MK MX12_knot 4 := ⟨(ai_in7 223 rfl rfl), (ai_in1 12 rfl rfl), by decide +kernel⟩
set_option maxRecDepth 20000 in
theorem in_X12_knot : Cond.instanceMethod yX12_knot ∈ ai_T := (ai_in7 221 rfl rfl)
set_option maxRecDepth 20000 in
theorem se_X12_knot : Cond.selects yX12_knot.cls yX12_knot yX12_knot ∈ ai_T := (ai_in7 222 rfl rfl)
abbrev MX12_far : ai_M := (yX12_far, cX12_far, 5, (some (.int)), 5, 122)
set_option maxRecDepth 20000 in
theorem mk_X12_far : ai_MK MX12_far 2 := ⟨(ai_in7 227 rfl rfl), (ai_in1 12 rfl rfl), by decide +kernel⟩
set_option maxRecDepth 20000 in
theorem in_X12_far : Cond.instanceMethod yX12_far ∈ ai_T := (ai_in7 225 rfl rfl)
set_option maxRecDepth 20000 in
theorem se_X12_far : Cond.selects yX12_far.cls yX12_far yX12_far ∈ ai_T := (ai_in7 226 rfl rfl)
abbrev MX12_isOwn : ai_M := (yX12_isOwn, cX12_isOwn, 4, (some (.boolean)), 1, 22)
set_option maxRecDepth 20000 in
theorem mk_X12_isOwn : ai_MK MX12_isOwn 3 := ⟨(ai_in7 237 rfl rfl), (ai_in1 12 rfl rfl), by decide +kernel⟩
set_option maxRecDepth 20000 in
theorem in_X12_isOwn : Cond.instanceMethod yX12_isOwn ∈ ai_T := (ai_in7 236 rfl rfl)
set_option maxRecDepth 20000 in
theorem se_X12_isOwn : Cond.selects yX12_isOwn.cls yX12_isOwn yX12_isOwn ∈ ai_T := ai_inS (n := 73) 102 rfl
abbrev MX12_own : ai_M := (yX12_own, cX12_own, 12, (some (.int)), 2, 46)
set_option maxRecDepth 20000 in
theorem mk_X12_own : ai_MK MX12_own 4 := ⟨(ai_in7 231 rfl rfl), (ai_in1 12 rfl rfl), by decide +kernel⟩
set_option maxRecDepth 20000 in
theorem in_X12_own : Cond.instanceMethod yX12_own ∈ ai_T := (ai_in7 229 rfl rfl)
set_option maxRecDepth 20000 in
theorem se_X12_own : Cond.selects yX12_own.cls yX12_own yX12_own ∈ ai_T := (ai_in7 230 rfl rfl)
abbrev MX12_leaves : ai_M := (yX12_leaves, cX12_leaves, 9, (some (.long)), 4, 99)
set_option maxRecDepth 20000 in
theorem mk_X12_leaves : ai_MK MX12_leaves 3 := ⟨(ai_in8 5 rfl rfl), (ai_in1 12 rfl rfl), by decide +kernel⟩
set_option maxRecDepth 20000 in
theorem in_X12_leaves : Cond.instanceMethod yX12_leaves ∈ ai_T := (ai_in8 4 rfl rfl)
set_option maxRecDepth 20000 in
theorem se_X12_leaves : Cond.selects yX12_leaves.cls yX12_leaves yX12_leaves ∈ ai_T := ai_inS (n := 73) 103 rfl
abbrev MX12_left : ai_M := (yX12_left, cX12_left, 4, (some (.long)), 5, 127)
set_option maxRecDepth 20000 in
theorem mk_X12_left : ai_MK MX12_left 3 := ⟨(ai_in8 1 rfl rfl), (ai_in1 12 rfl rfl), by decide +kernel⟩
set_option maxRecDepth 20000 in
theorem in_X12_left : Cond.instanceMethod yX12_left ∈ ai_T := (ai_in7 239 rfl rfl)
set_option maxRecDepth 20000 in
theorem se_X12_left : Cond.selects yX12_left.cls yX12_left yX12_left ∈ ai_T := (ai_in8 0 rfl rfl)
abbrev MX12_best : ai_M := (yX12_best, cX12_best, 12, (some (.int)), 5, 127)
set_option maxRecDepth 20000 in
theorem mk_X12_best : ai_MK MX12_best 4 := ⟨(ai_in8 9 rfl rfl), (ai_in1 12 rfl rfl), by decide +kernel⟩
set_option maxRecDepth 20000 in
theorem in_X12_best : Cond.instanceMethod yX12_best ∈ ai_T := (ai_in8 7 rfl rfl)
set_option maxRecDepth 20000 in
theorem se_X12_best : Cond.selects yX12_best.cls yX12_best yX12_best ∈ ai_T := (ai_in8 8 rfl rfl)
abbrev MX12_scattered : ai_M := (yX12_scattered, cX12_scattered, 8, (some (.long)), 0, 0)
set_option maxRecDepth 20000 in
theorem mk_X12_scattered : ai_MK MX12_scattered 1 := ⟨(ai_in8 19 rfl rfl), (ai_in1 12 rfl rfl), by decide +kernel⟩
set_option maxRecDepth 20000 in
theorem in_X12_scattered : Cond.instanceMethod yX12_scattered ∈ ai_T := (ai_in8 18 rfl rfl)
set_option maxRecDepth 20000 in
theorem se_X12_scattered : Cond.selects yX12_scattered.cls yX12_scattered yX12_scattered ∈ ai_T := ai_inS (n := 73) 104 rfl
abbrev MX12_scatter : ai_M := (yX12_scatter, cX12_scatter, 3, (some (.long)), 3, 67)
set_option maxRecDepth 20000 in
theorem mk_X12_scatter : ai_MK MX12_scatter 2 := ⟨(ai_in8 15 rfl rfl), (ai_in1 12 rfl rfl), by decide +kernel⟩
set_option maxRecDepth 20000 in
theorem in_X12_scatter : Cond.instanceMethod yX12_scatter ∈ ai_T := (ai_in8 13 rfl rfl)
set_option maxRecDepth 20000 in
theorem se_X12_scatter : Cond.selects yX12_scatter.cls yX12_scatter yX12_scatter ∈ ai_T := (ai_in8 14 rfl rfl)
abbrev MX12_finest : ai_M := (yX12_finest, cX12_finest, 9, (some (.int)), 3, 67)
set_option maxRecDepth 20000 in
theorem mk_X12_finest : ai_MK MX12_finest 1 := ⟨(ai_in8 24 rfl rfl), (ai_in1 12 rfl rfl), by decide +kernel⟩
set_option maxRecDepth 20000 in
theorem in_X12_finest : Cond.instanceMethod yX12_finest ∈ ai_T := (ai_in8 22 rfl rfl)
set_option maxRecDepth 20000 in
theorem se_X12_finest : Cond.selects yX12_finest.cls yX12_finest yX12_finest ∈ ai_T := (ai_in8 23 rfl rfl)
abbrev MX12_mean : ai_M := (yX12_mean, cX12_mean, 2, (some (.long)), 1, 25)
set_option maxRecDepth 20000 in
theorem mk_X12_mean : ai_MK MX12_mean 1 := ⟨(ai_in8 32 rfl rfl), (ai_in1 12 rfl rfl), by decide +kernel⟩
set_option maxRecDepth 20000 in
theorem in_X12_mean : Cond.instanceMethod yX12_mean ∈ ai_T := (ai_in8 31 rfl rfl)
set_option maxRecDepth 20000 in
theorem se_X12_mean : Cond.selects yX12_mean.cls yX12_mean yX12_mean ∈ ai_T := ai_inS (n := 73) 105 rfl
abbrev MX12_moved : ai_M := (yX12_moved, cX12_moved, 12, (some (.int)), 5, 122)
set_option maxRecDepth 20000 in
theorem mk_X12_moved : ai_MK MX12_moved 7 := ⟨(ai_in8 28 rfl rfl), (ai_in1 12 rfl rfl), by decide +kernel⟩
set_option maxRecDepth 20000 in
theorem in_X12_moved : Cond.instanceMethod yX12_moved ∈ ai_T := (ai_in8 26 rfl rfl)
set_option maxRecDepth 20000 in
theorem se_X12_moved : Cond.selects yX12_moved.cls yX12_moved yX12_moved ∈ ai_T := (ai_in8 27 rfl rfl)
abbrev MX12_longitude : ai_M := (yX12_longitude, cX12_longitude, 14, (some (.int)), 5, 122)
set_option maxRecDepth 20000 in
theorem mk_X12_longitude : ai_MK MX12_longitude 4 := ⟨(ai_in8 36 rfl rfl), (ai_in1 12 rfl rfl), by decide +kernel⟩
set_option maxRecDepth 20000 in
theorem in_X12_longitude : Cond.instanceMethod yX12_longitude ∈ ai_T := (ai_in8 34 rfl rfl)
set_option maxRecDepth 20000 in
theorem se_X12_longitude : Cond.selects yX12_longitude.cls yX12_longitude yX12_longitude ∈ ai_T := (ai_in8 35 rfl rfl)
abbrev MX12_journey : ai_M := (yX12_journey, cX12_journey, 4, (some (.int)), 2, 46)
set_option maxRecDepth 20000 in
theorem mk_X12_journey : ai_MK MX12_journey 3 := ⟨(ai_in8 40 rfl rfl), (ai_in1 12 rfl rfl), by decide +kernel⟩
set_option maxRecDepth 20000 in
theorem in_X12_journey : Cond.instanceMethod yX12_journey ∈ ai_T := (ai_in8 38 rfl rfl)
set_option maxRecDepth 20000 in
theorem se_X12_journey : Cond.selects yX12_journey.cls yX12_journey yX12_journey ∈ ai_T := (ai_in8 39 rfl rfl)
abbrev MX12_joins : ai_M := (yX12_joins, cX12_joins, 6, none, 0, 0)
set_option maxRecDepth 20000 in
theorem mk_X12_joins : ai_MK MX12_joins 2 := ⟨(ai_in8 52 rfl rfl), (ai_in1 12 rfl rfl), by decide +kernel⟩
set_option maxRecDepth 20000 in
theorem in_X12_joins : Cond.instanceMethod yX12_joins ∈ ai_T := (ai_in8 51 rfl rfl)
set_option maxRecDepth 20000 in
theorem se_X12_joins : Cond.selects yX12_joins.cls yX12_joins yX12_joins ∈ ai_T := ai_inS (n := 73) 107 rfl
abbrev MX12_ties : ai_M := (yX12_ties, cX12_ties, 5, (some (.int)), 1, 25)
set_option maxRecDepth 20000 in
theorem mk_X12_ties : ai_MK MX12_ties 1 := ⟨(ai_in8 48 rfl rfl), (ai_in1 12 rfl rfl), by decide +kernel⟩
set_option maxRecDepth 20000 in
theorem in_X12_ties : Cond.instanceMethod yX12_ties ∈ ai_T := (ai_in8 47 rfl rfl)
set_option maxRecDepth 20000 in
theorem se_X12_ties : Cond.selects yX12_ties.cls yX12_ties yX12_ties ∈ ai_T := ai_inS (n := 73) 106 rfl
abbrev MX12_tied : ai_M := (yX12_tied, cX12_tied, 2, (some (.int)), 4, 93)
set_option maxRecDepth 20000 in
theorem mk_X12_tied : ai_MK MX12_tied 1 := ⟨(ai_in8 44 rfl rfl), (ai_in1 12 rfl rfl), by decide +kernel⟩
set_option maxRecDepth 20000 in
theorem in_X12_tied : Cond.instanceMethod yX12_tied ∈ ai_T := (ai_in8 42 rfl rfl)
set_option maxRecDepth 20000 in
theorem se_X12_tied : Cond.selects yX12_tied.cls yX12_tied yX12_tied ∈ ai_T := (ai_in8 43 rfl rfl)
abbrev MX12_plan : ai_M := (yX12_plan, cX12_plan, 9, (some (.int)), 4, 93)
set_option maxRecDepth 20000 in
theorem mk_X12_plan : ai_MK MX12_plan 2 := ⟨(ai_in8 56 rfl rfl), (ai_in1 12 rfl rfl), by decide +kernel⟩
set_option maxRecDepth 20000 in
theorem in_X12_plan : Cond.instanceMethod yX12_plan ∈ ai_T := (ai_in8 54 rfl rfl)
set_option maxRecDepth 20000 in
theorem se_X12_plan : Cond.selects yX12_plan.cls yX12_plan yX12_plan ∈ ai_T := (ai_in8 55 rfl rfl)
abbrev MX12_next : ai_M := (yX12_next, cX12_next, 8, (some (.int)), 4, 93)
set_option maxRecDepth 20000 in
theorem mk_X12_next : ai_MK MX12_next 0 := ⟨(ai_in8 61 rfl rfl), (ai_in1 12 rfl rfl), by decide +kernel⟩
set_option maxRecDepth 20000 in
theorem in_X12_next : Cond.instanceMethod yX12_next ∈ ai_T := (ai_in8 59 rfl rfl)
set_option maxRecDepth 20000 in
theorem se_X12_next : Cond.selects yX12_next.cls yX12_next yX12_next ∈ ai_T := (ai_in8 60 rfl rfl)
abbrev MX12_said : ai_M := (yX12_said, cX12_said, 9, (some (.long)), 4, 93)
set_option maxRecDepth 20000 in
theorem mk_X12_said : ai_MK MX12_said 4 := ⟨(ai_in8 65 rfl rfl), (ai_in1 12 rfl rfl), by decide +kernel⟩
set_option maxRecDepth 20000 in
theorem in_X12_said : Cond.instanceMethod yX12_said ∈ ai_T := (ai_in8 63 rfl rfl)
set_option maxRecDepth 20000 in
theorem se_X12_said : Cond.selects yX12_said.cls yX12_said yX12_said ∈ ai_T := (ai_in8 64 rfl rfl)
abbrev MX12_leans : ai_M := (yX12_leans, cX12_leans, 3, (some (.boolean)), 2, 46)
set_option maxRecDepth 20000 in
theorem mk_X12_leans : ai_MK MX12_leans 2 := ⟨(ai_in8 69 rfl rfl), (ai_in1 12 rfl rfl), by decide +kernel⟩
set_option maxRecDepth 20000 in
theorem in_X12_leans : Cond.instanceMethod yX12_leans ∈ ai_T := (ai_in8 67 rfl rfl)
set_option maxRecDepth 20000 in
theorem se_X12_leans : Cond.selects yX12_leans.cls yX12_leans yX12_leans ∈ ai_T := (ai_in8 68 rfl rfl)
abbrev MX12_later : ai_M := (yX12_later, cX12_later, 13, (some (.int)), 5, 123)
set_option maxRecDepth 20000 in
theorem mk_X12_later : ai_MK MX12_later 5 := ⟨(ai_in8 73 rfl rfl), (ai_in1 12 rfl rfl), by decide +kernel⟩
set_option maxRecDepth 20000 in
theorem in_X12_later : Cond.instanceMethod yX12_later ∈ ai_T := (ai_in8 71 rfl rfl)
set_option maxRecDepth 20000 in
theorem se_X12_later : Cond.selects yX12_later.cls yX12_later yX12_later ∈ ai_T := (ai_in8 72 rfl rfl)
abbrev MX12_draws : ai_M := (yX12_draws, cX12_draws, 5, none, 4, 99)
set_option maxRecDepth 20000 in
theorem mk_X12_draws : ai_MK MX12_draws 1 := ⟨(ai_in8 78 rfl rfl), (ai_in1 12 rfl rfl), by decide +kernel⟩
set_option maxRecDepth 20000 in
theorem in_X12_draws : Cond.instanceMethod yX12_draws ∈ ai_T := (ai_in8 77 rfl rfl)
set_option maxRecDepth 20000 in
theorem se_X12_draws : Cond.selects yX12_draws.cls yX12_draws yX12_draws ∈ ai_T := ai_inS (n := 73) 108 rfl
abbrev MX12_carry : ai_M := (yX12_carry, cX12_carry, 3, none, 0, 0)
set_option maxRecDepth 20000 in
theorem mk_X12_carry : ai_MK MX12_carry 1 := ⟨(ai_in8 94 rfl rfl), (ai_in1 12 rfl rfl), by decide +kernel⟩
set_option maxRecDepth 20000 in
theorem in_X12_carry : Cond.instanceMethod yX12_carry ∈ ai_T := (ai_in8 93 rfl rfl)
set_option maxRecDepth 20000 in
theorem se_X12_carry : Cond.selects yX12_carry.cls yX12_carry yX12_carry ∈ ai_T := ai_inS (n := 73) 110 rfl
abbrev MX12_carries : ai_M := (yX12_carries, cX12_carries, 2, none, 1, 22)
set_option maxRecDepth 20000 in
theorem mk_X12_carries : ai_MK MX12_carries 1 := ⟨(ai_in8 90 rfl rfl), (ai_in1 12 rfl rfl), by decide +kernel⟩
set_option maxRecDepth 20000 in
theorem in_X12_carries : Cond.instanceMethod yX12_carries ∈ ai_T := (ai_in8 89 rfl rfl)
set_option maxRecDepth 20000 in
theorem se_X12_carries : Cond.selects yX12_carries.cls yX12_carries yX12_carries ∈ ai_T := ai_inS (n := 73) 109 rfl
abbrev MX12_mark : ai_M := (yX12_mark, cX12_mark, 2, (some (.int)), 2, 43)
set_option maxRecDepth 20000 in
theorem mk_X12_mark : ai_MK MX12_mark 1 := ⟨(ai_in8 86 rfl rfl), (ai_in1 12 rfl rfl), by decide +kernel⟩
set_option maxRecDepth 20000 in
theorem in_X12_mark : Cond.instanceMethod yX12_mark ∈ ai_T := (ai_in8 84 rfl rfl)
set_option maxRecDepth 20000 in
theorem se_X12_mark : Cond.selects yX12_mark.cls yX12_mark yX12_mark ∈ ai_T := (ai_in8 85 rfl rfl)
abbrev MX12_back : ai_M := (yX12_back, cX12_back, 2, (some (.int)), 2, 43)
set_option maxRecDepth 20000 in
theorem mk_X12_back : ai_MK MX12_back 1 := ⟨(ai_in8 98 rfl rfl), (ai_in1 12 rfl rfl), by decide +kernel⟩
set_option maxRecDepth 20000 in
theorem in_X12_back : Cond.instanceMethod yX12_back ∈ ai_T := (ai_in8 96 rfl rfl)
set_option maxRecDepth 20000 in
theorem se_X12_back : Cond.selects yX12_back.cls yX12_back yX12_back ∈ ai_T := (ai_in8 97 rfl rfl)
abbrev MX12_count : ai_M := (yX12_count, cX12_count, 2, (some (.int)), 0, 0)
set_option maxRecDepth 20000 in
theorem mk_X12_count : ai_MK MX12_count 1 := ⟨(ai_in8 102 rfl rfl), (ai_in1 12 rfl rfl), by decide +kernel⟩
set_option maxRecDepth 20000 in
theorem in_X12_count : Cond.instanceMethod yX12_count ∈ ai_T := (ai_in8 100 rfl rfl)
set_option maxRecDepth 20000 in
theorem se_X12_count : Cond.selects yX12_count.cls yX12_count yX12_count ∈ ai_T := (ai_in8 101 rfl rfl)
abbrev MJ6_bitCount_0f7a4 : ai_M := (yJ6_bitCount_0f7a4, cJ6_bitCount_0f7a4, 1, (some (.int)), 0, 0)
set_option maxRecDepth 20000 in
theorem mk_J6_bitCount_0f7a4 : ai_MK MJ6_bitCount_0f7a4 1 := ⟨(ai_in5 20 rfl rfl), (ai_in1 20 rfl rfl), by decide +kernel⟩
set_option maxRecDepth 20000 in
theorem st_J6_bitCount_0f7a4 : Cond.static yJ6_bitCount_0f7a4 ∈ ai_T := (ai_in5 19 rfl rfl)
abbrev MJ9_floorDiv_7cf53 : ai_M := (yJ9_floorDiv_7cf53, cJ9_floorDiv_7cf53, 3, (some (.int)), 0, 0)
set_option maxRecDepth 20000 in
theorem mk_J9_floorDiv_7cf53 : ai_MK MJ9_floorDiv_7cf53 2 := ⟨(ai_in4 25 rfl rfl), (ai_in1 13 rfl rfl), by decide +kernel⟩
set_option maxRecDepth 20000 in
theorem st_J9_floorDiv_7cf53 : Cond.static yJ9_floorDiv_7cf53 ∈ ai_T := (ai_in4 24 rfl rfl)
abbrev MJ9_floorDiv_f86c9 : ai_M := (yJ9_floorDiv_f86c9, cJ9_floorDiv_f86c9, 6, (some (.long)), 0, 0)
set_option maxRecDepth 20000 in
theorem mk_J9_floorDiv_f86c9 : ai_MK MJ9_floorDiv_f86c9 2 := ⟨(ai_in4 119 rfl rfl), (ai_in1 13 rfl rfl), by decide +kernel⟩
set_option maxRecDepth 20000 in
theorem st_J9_floorDiv_f86c9 : Cond.static yJ9_floorDiv_f86c9 ∈ ai_T := (ai_in4 118 rfl rfl)
abbrev MJ9_abs_067f4 : ai_M := (yJ9_abs_067f4, cJ9_abs_067f4, 2, (some (.long)), 0, 0)
set_option maxRecDepth 20000 in
theorem mk_J9_abs_067f4 : ai_MK MJ9_abs_067f4 1 := ⟨(ai_in5 37 rfl rfl), (ai_in1 13 rfl rfl), by decide +kernel⟩
set_option maxRecDepth 20000 in
theorem st_J9_abs_067f4 : Cond.static yJ9_abs_067f4 ∈ ai_T := (ai_in5 36 rfl rfl)
abbrev MJ9_max_7cf53 : ai_M := (yJ9_max_7cf53, cJ9_max_7cf53, 2, (some (.int)), 0, 0)
set_option maxRecDepth 20000 in
theorem mk_J9_max_7cf53 : ai_MK MJ9_max_7cf53 2 := ⟨(ai_in2 239 rfl rfl), (ai_in1 13 rfl rfl), by decide +kernel⟩
set_option maxRecDepth 20000 in
theorem st_J9_max_7cf53 : Cond.static yJ9_max_7cf53 ∈ ai_T := (ai_in2 238 rfl rfl)
abbrev MJ9_max_f86c9 : ai_M := (yJ9_max_f86c9, cJ9_max_f86c9, 4, (some (.long)), 0, 0)
set_option maxRecDepth 20000 in
theorem mk_J9_max_f86c9 : ai_MK MJ9_max_f86c9 2 := ⟨(ai_in2 213 rfl rfl), (ai_in1 13 rfl rfl), by decide +kernel⟩
set_option maxRecDepth 20000 in
theorem st_J9_max_f86c9 : Cond.static yJ9_max_f86c9 ∈ ai_T := (ai_in2 212 rfl rfl)
abbrev MJ9_min_7cf53 : ai_M := (yJ9_min_7cf53, cJ9_min_7cf53, 2, (some (.int)), 0, 0)
set_option maxRecDepth 20000 in
theorem mk_J9_min_7cf53 : ai_MK MJ9_min_7cf53 2 := ⟨(ai_in2 236 rfl rfl), (ai_in1 13 rfl rfl), by decide +kernel⟩
set_option maxRecDepth 20000 in
theorem st_J9_min_7cf53 : Cond.static yJ9_min_7cf53 ∈ ai_T := (ai_in2 235 rfl rfl)
abbrev MJ9_min_f86c9 : ai_M := (yJ9_min_f86c9, cJ9_min_f86c9, 4, (some (.long)), 0, 0)
set_option maxRecDepth 20000 in
theorem mk_J9_min_f86c9 : ai_MK MJ9_min_f86c9 2 := ⟨(ai_in2 210 rfl rfl), (ai_in1 13 rfl rfl), by decide +kernel⟩
set_option maxRecDepth 20000 in
theorem st_J9_min_f86c9 : Cond.static yJ9_min_f86c9 ∈ ai_T := (ai_in2 209 rfl rfl)
abbrev MJ0_length_8abf5 : ai_M := (yJ0_length_8abf5, cJ0_length_8abf5, 1, (some (.int)), 1, 20)
set_option maxRecDepth 20000 in
theorem mk_J0_length_8abf5 : ai_MK MJ0_length_8abf5 0 := ⟨(ai_in3 38 rfl rfl), (ai_in1 14 rfl rfl), by decide +kernel⟩
set_option maxRecDepth 20000 in
theorem in_J0_length_8abf5 : Cond.instanceMethod yJ0_length_8abf5 ∈ ai_T := (ai_in3 36 rfl rfl)
set_option maxRecDepth 20000 in
theorem se_J0_length_8abf5 : Cond.selects yJ0_length_8abf5.cls yJ0_length_8abf5 yJ0_length_8abf5 ∈ ai_T := (ai_in3 37 rfl rfl)
abbrev MJ0_charAt_5068e : ai_M := (yJ0_charAt_5068e, cJ0_charAt_5068e, 2, (some (.char)), 4, 85)
set_option maxRecDepth 20000 in
theorem mk_J0_charAt_5068e : ai_MK MJ0_charAt_5068e 1 := ⟨(ai_in3 48 rfl rfl), (ai_in1 14 rfl rfl), by decide +kernel⟩
set_option maxRecDepth 20000 in
theorem in_J0_charAt_5068e : Cond.instanceMethod yJ0_charAt_5068e ∈ ai_T := (ai_in3 46 rfl rfl)
set_option maxRecDepth 20000 in
theorem se_J0_charAt_5068e : Cond.selects yJ0_charAt_5068e.cls yJ0_charAt_5068e yJ0_charAt_5068e ∈ ai_T := (ai_in3 47 rfl rfl)
abbrev MJ0_coder_7d493 : ai_M := (yJ0_coder_7d493, cJ0_coder_7d493, 1, (some (.byte)), 0, 0)
set_option maxRecDepth 20000 in
theorem mk_J0_coder_7d493 : ai_MK MJ0_coder_7d493 0 := ⟨(ai_in3 42 rfl rfl), (ai_in1 14 rfl rfl), by decide +kernel⟩
set_option maxRecDepth 20000 in
theorem in_J0_coder_7d493 : Cond.instanceMethod yJ0_coder_7d493 ∈ ai_T := (ai_in3 40 rfl rfl)
set_option maxRecDepth 20000 in
theorem se_J0_coder_7d493 : Cond.selects yJ0_coder_7d493.cls yJ0_coder_7d493 yJ0_coder_7d493 ∈ ai_T := (ai_in3 41 rfl rfl)
abbrev MJ0_isLatin1_aae02 : ai_M := (yJ0_isLatin1_aae02, cJ0_isLatin1_aae02, 1, (some (.boolean)), 0, 0)
set_option maxRecDepth 20000 in
theorem mk_J0_isLatin1_aae02 : ai_MK MJ0_isLatin1_aae02 0 := ⟨(ai_in3 52 rfl rfl), (ai_in1 14 rfl rfl), by decide +kernel⟩
set_option maxRecDepth 20000 in
theorem in_J0_isLatin1_aae02 : Cond.instanceMethod yJ0_isLatin1_aae02 ∈ ai_T := (ai_in3 50 rfl rfl)
set_option maxRecDepth 20000 in
theorem se_J0_isLatin1_aae02 : Cond.selects yJ0_isLatin1_aae02.cls yJ0_isLatin1_aae02 yJ0_isLatin1_aae02 ∈ ai_T := (ai_in3 51 rfl rfl)
abbrev MJ0_checkIndex_df160 : ai_M := (yJ0_checkIndex_df160, cJ0_checkIndex_df160, 2, none, 1, 22)
set_option maxRecDepth 20000 in
theorem mk_J0_checkIndex_df160 : ai_MK MJ0_checkIndex_df160 2 := ⟨(ai_in3 58 rfl rfl), (ai_in1 14 rfl rfl), by decide +kernel⟩
set_option maxRecDepth 20000 in
theorem st_J0_checkIndex_df160 : Cond.static yJ0_checkIndex_df160 ∈ ai_T := (ai_in3 57 rfl rfl)
abbrev MJ1_charAt_3b067 : ai_M := (yJ1_charAt_3b067, cJ1_charAt_3b067, 2, (some (.char)), 2, 43)
set_option maxRecDepth 20000 in
theorem mk_J1_charAt_3b067 : ai_MK MJ1_charAt_3b067 2 := ⟨(ai_in3 55 rfl rfl), (ai_in1 15 rfl rfl), by decide +kernel⟩
set_option maxRecDepth 20000 in
theorem st_J1_charAt_3b067 : Cond.static yJ1_charAt_3b067 ∈ ai_T := (ai_in3 54 rfl rfl)
abbrev MJ2_getChar_3b067 : ai_M := (yJ2_getChar_3b067, cJ2_getChar_3b067, 2, (some (.char)), 1, 20)
set_option maxRecDepth 20000 in
theorem mk_J2_getChar_3b067 : ai_MK MJ2_getChar_3b067 2 := ⟨(ai_in3 76 rfl rfl), (ai_in1 17 rfl rfl), by decide +kernel⟩
set_option maxRecDepth 20000 in
theorem st_J2_getChar_3b067 : Cond.static yJ2_getChar_3b067 ∈ ai_T := (ai_in3 75 rfl rfl)
abbrev MJ2_length_9d52b : ai_M := (yJ2_length_9d52b, cJ2_length_9d52b, 1, (some (.int)), 0, 0)
set_option maxRecDepth 20000 in
theorem mk_J2_length_9d52b : ai_MK MJ2_length_9d52b 1 := ⟨(ai_in3 72 rfl rfl), (ai_in1 17 rfl rfl), by decide +kernel⟩
set_option maxRecDepth 20000 in
theorem st_J2_length_9d52b : Cond.static yJ2_length_9d52b ∈ ai_T := (ai_in3 71 rfl rfl)
abbrev MJ2_charAt_3b067 : ai_M := (yJ2_charAt_3b067, cJ2_charAt_3b067, 2, (some (.char)), 3, 64)
set_option maxRecDepth 20000 in
theorem mk_J2_charAt_3b067 : ai_MK MJ2_charAt_3b067 2 := ⟨(ai_in3 66 rfl rfl), (ai_in1 17 rfl rfl), by decide +kernel⟩
set_option maxRecDepth 20000 in
theorem st_J2_charAt_3b067 : Cond.static yJ2_charAt_3b067 ∈ ai_T := (ai_in3 65 rfl rfl)
abbrev MJ2_checkIndex_2214a : ai_M := (yJ2_checkIndex_2214a, cJ2_checkIndex_2214a, 2, none, 2, 43)
set_option maxRecDepth 20000 in
theorem mk_J2_checkIndex_2214a : ai_MK MJ2_checkIndex_2214a 2 := ⟨(ai_in3 69 rfl rfl), (ai_in1 17 rfl rfl), by decide +kernel⟩
set_option maxRecDepth 20000 in
theorem st_J2_checkIndex_2214a : Cond.static yJ2_checkIndex_2214a ∈ ai_T := (ai_in3 68 rfl rfl)
abbrev MJ3_checkIndex_8e157 : ai_M := (yJ3_checkIndex_8e157, cJ3_checkIndex_8e157, 3, (some (.int)), 0, 0)
set_option maxRecDepth 20000 in
theorem mk_J3_checkIndex_8e157 : ai_MK MJ3_checkIndex_8e157 3 := ⟨(ai_in3 63 rfl rfl), (ai_in1 16 rfl rfl), by decide +kernel⟩
set_option maxRecDepth 20000 in
theorem st_J3_checkIndex_8e157 : Cond.static yJ3_checkIndex_8e157 ∈ ai_T := (ai_in3 62 rfl rfl)
set_option maxRecDepth 20000 in
theorem mlL_9 : ai_ML RL 9 yX11_init := Or.inl ((ai_in1 23 rfl rfl))
set_option maxRecDepth 20000 in
theorem mlX11_1 : Cond.methodLink RX11 1 Lib.objectInit ∈ ai_T := (ai_in1 26 rfl rfl)
set_option maxRecDepth 20000 in
theorem mlX11_9 : ai_ML RX11 9 yX1_init := Or.inr ⟨"EachLater", (ai_inN1 31 rfl rfl)⟩
set_option maxRecDepth 20000 in
theorem mlX1_3 : Cond.methodLink RX1 3 Lib.objectInit ∈ ai_T := (ai_in1 34 rfl rfl)
set_option maxRecDepth 20000 in
theorem mlX1_17 : ai_ML RX1 17 yX8_init := Or.inl ((ai_in1 37 rfl rfl))
set_option maxRecDepth 20000 in
theorem mlX8_3 : Cond.methodLink RX8 3 Lib.objectInit ∈ ai_T := (ai_in1 40 rfl rfl)
set_option maxRecDepth 20000 in
theorem mlX11_43 : ai_ML RX11 43 yX5_init := Or.inr ⟨"EachLater", (ai_inN1 89 rfl rfl)⟩
set_option maxRecDepth 20000 in
theorem mlX5_3 : Cond.methodLink RX5 3 Lib.objectInit ∈ ai_T := (ai_in1 92 rfl rfl)
set_option maxRecDepth 20000 in
theorem mlX11_50 : ai_ML RX11 50 yX7_init := Or.inr ⟨"EachLater", (ai_inN1 149 rfl rfl)⟩
set_option maxRecDepth 20000 in
theorem mlX7_3 : Cond.methodLink RX7 3 Lib.objectInit ∈ ai_T := (ai_in1 152 rfl rfl)
set_option maxRecDepth 20000 in
theorem mlX11_57 : ai_ML RX11 57 yX2_init := Or.inr ⟨"EachLater", (ai_inN1 162 rfl rfl)⟩
set_option maxRecDepth 20000 in
theorem mlX2_3 : Cond.methodLink RX2 3 Lib.objectInit ∈ ai_T := (ai_in1 165 rfl rfl)
set_option maxRecDepth 20000 in
theorem mlX11_64 : ai_ML RX11 64 yX4_init := Or.inl ((ai_in1 218 rfl rfl))
set_option maxRecDepth 20000 in
theorem mlX4_3 : Cond.methodLink RX4 3 Lib.objectInit ∈ ai_T := (ai_in1 221 rfl rfl)
set_option maxRecDepth 20000 in
theorem mlX4_17 : ai_ML RX4 17 yX9_init := Or.inr ⟨"EachLater", (ai_inN1 225 rfl rfl)⟩
set_option maxRecDepth 20000 in
theorem mlX9_1 : Cond.methodLink RX9 1 Lib.objectInit ∈ ai_T := (ai_in1 228 rfl rfl)
set_option maxRecDepth 20000 in
theorem mlX11_71 : ai_ML RX11 71 yX6_init := Or.inr ⟨"EachLater", (ai_inN2 14 rfl rfl)⟩
set_option maxRecDepth 20000 in
theorem mlX6_3 : Cond.methodLink RX6 3 Lib.objectInit ∈ ai_T := (ai_in2 17 rfl rfl)
set_option maxRecDepth 20000 in
theorem mlX11_78 : ai_ML RX11 78 yX0_init := Or.inr ⟨"EachLater", (ai_inN2 30 rfl rfl)⟩
set_option maxRecDepth 20000 in
theorem mlX0_3 : Cond.methodLink RX0 3 Lib.objectInit ∈ ai_T := (ai_in2 33 rfl rfl)
set_option maxRecDepth 20000 in
theorem mlX11_85 : ai_ML RX11 85 yX10_init := Or.inr ⟨"EachLater", (ai_inN2 46 rfl rfl)⟩
set_option maxRecDepth 20000 in
theorem mlX10_3 : Cond.methodLink RX10 3 Lib.objectInit ∈ ai_T := (ai_in2 49 rfl rfl)
set_option maxRecDepth 20000 in
theorem mlX10_42 : ai_ML RX10 42 yX9_init := Or.inr ⟨"EachLater", (ai_inN2 51 rfl rfl)⟩
set_option maxRecDepth 20000 in
theorem mlX11_92 : ai_ML RX11 92 yX9_init := Or.inr ⟨"EachLater", (ai_inN2 81 rfl rfl)⟩
set_option maxRecDepth 20000 in
theorem mlL_13 : ai_ML RL 13 yX11_clock := Or.inl ((ai_in2 128 rfl rfl))
set_option maxRecDepth 20000 in
theorem mlX11_97 : ai_ML RX11 97 yX11_isWeek := Or.inl ((ai_in2 132 rfl rfl))
set_option maxRecDepth 20000 in
theorem mlX11_104 : ai_ML RX11 104 yX11_isWithin := Or.inl ((ai_in2 135 rfl rfl))
set_option maxRecDepth 20000 in
theorem mlL_18 : ai_ML RL 18 yX11_observer := Or.inl ((ai_in2 138 rfl rfl))
set_option maxRecDepth 20000 in
theorem mlX11_112 : ai_ML RX11 112 yX8_grow := Or.inl ((ai_in2 142 rfl rfl))
set_option maxRecDepth 20000 in
theorem mlX11_118 : ai_ML RX11 118 yX8_put := Or.inl ((ai_in2 146 rfl rfl))
set_option maxRecDepth 20000 in
theorem mlX8_25 : ai_ML RX8 25 yX8_has := Or.inl ((ai_in2 150 rfl rfl))
set_option maxRecDepth 20000 in
theorem mlL_23 : ai_ML RL 23 yX11_star := Or.inl ((ai_in2 154 rfl rfl))
set_option maxRecDepth 20000 in
theorem mlL_28 : ai_ML RL 28 yX11_night := Or.inl ((ai_in2 158 rfl rfl))
set_option maxRecDepth 20000 in
theorem mlX11_125 : ai_ML RX11 125 yX11_isHouse := Or.inl ((ai_in2 162 rfl rfl))
set_option maxRecDepth 20000 in
theorem mlL_33 : ai_ML RL 33 yX11_record := Or.inl ((ai_in2 165 rfl rfl))
set_option maxRecDepth 20000 in
theorem mlX11_131 : ai_ML RX11 131 yX11_isSight := Or.inl ((ai_in2 169 rfl rfl))
set_option maxRecDepth 20000 in
theorem mlX11_138 : ai_ML RX11 138 yX8_has := Or.inl ((ai_in2 173 rfl rfl))
set_option maxRecDepth 20000 in
theorem mlL_38 : ai_ML RL 38 yX11_strike := Or.inl ((ai_in2 174 rfl rfl))
set_option maxRecDepth 20000 in
theorem mlX11_141 : ai_ML RX11 141 yX8_at := Or.inl ((ai_in2 178 rfl rfl))
set_option maxRecDepth 20000 in
theorem mlL_42 : ai_ML RL 42 yX11_seen := Or.inl ((ai_in2 182 rfl rfl))
set_option maxRecDepth 20000 in
theorem mlX11_146 : ai_ML RX11 146 yX11_tallySeen := Or.inl ((ai_in2 187 rfl rfl))
set_option maxRecDepth 20000 in
theorem mlX11_317 : ai_ML RX11 317 yX9_clear := Or.inl ((ai_in2 191 rfl rfl))
set_option maxRecDepth 20000 in
theorem mlX11_320 : ai_ML RX11 320 yX1_isKnown := Or.inl ((ai_in2 195 rfl rfl))
set_option maxRecDepth 20000 in
theorem mlX1_40 : ai_ML RX1 40 yX8_at := Or.inl ((ai_in2 199 rfl rfl))
set_option maxRecDepth 20000 in
theorem mlX11_323 : ai_ML RX11 323 yX1_reduced := Or.inl ((ai_in2 200 rfl rfl))
set_option maxRecDepth 20000 in
theorem mlX11_326 : ai_ML RX11 326 yX9_add := Or.inl ((ai_in2 204 rfl rfl))
set_option maxRecDepth 20000 in
theorem mlX9_23 : ai_ML RX9 23 yJ9_min_f86c9 := Or.inl ((ai_in2 208 rfl rfl))
set_option maxRecDepth 20000 in
theorem mlX9_29 : ai_ML RX9 29 yJ9_max_f86c9 := Or.inl ((ai_in2 211 rfl rfl))
set_option maxRecDepth 20000 in
theorem mlL_47 : ai_ML RL 47 yX11_feed := Or.inl ((ai_in2 214 rfl rfl))
set_option maxRecDepth 20000 in
theorem mlX11_157 : ai_ML RX11 157 yX11_feedNumber := Or.inl ((ai_in2 218 rfl rfl))
set_option maxRecDepth 20000 in
theorem mlL_52 : ai_ML RL 52 yX11_end := Or.inl ((ai_in2 222 rfl rfl))
set_option maxRecDepth 20000 in
theorem mlL_56 : ai_ML RL 56 yX11_law := Or.inl ((ai_in2 226 rfl rfl))
set_option maxRecDepth 20000 in
theorem mlX11_161 : ai_ML RX11 161 yX5_read := Or.inl ((ai_in2 230 rfl rfl))
set_option maxRecDepth 20000 in
theorem mlX5_66 : ai_ML RX5 66 yJ9_min_7cf53 := Or.inl ((ai_in2 234 rfl rfl))
set_option maxRecDepth 20000 in
theorem mlX5_72 : ai_ML RX5 72 yJ9_max_7cf53 := Or.inl ((ai_in2 237 rfl rfl))
set_option maxRecDepth 20000 in
theorem mlX5_75 : ai_ML RX5 75 yX5_take := Or.inl ((ai_in3 0 rfl rfl))
set_option maxRecDepth 20000 in
theorem mlX5_86 : ai_ML RX5 86 yX5_byteAt := Or.inl ((ai_in3 4 rfl rfl))
set_option maxRecDepth 20000 in
theorem mlX5_91 : ai_ML RX5 91 yX5_isDigit := Or.inl ((ai_in3 9 rfl rfl))
set_option maxRecDepth 20000 in
theorem mlX5_95 : ai_ML RX5 95 yX5_takeNumber := Or.inl ((ai_in3 13 rfl rfl))
set_option maxRecDepth 20000 in
theorem mlX5_98 : ai_ML RX5 98 yX5_isLetter := Or.inl ((ai_in3 18 rfl rfl))
set_option maxRecDepth 20000 in
theorem mlX5_101 : ai_ML RX5 101 yX5_takeWord := Or.inl ((ai_in3 22 rfl rfl))
set_option maxRecDepth 20000 in
theorem mlX5_108 : ai_ML RX5 108 yX5_keywordKind := Or.inl ((ai_in3 26 rfl rfl))
set_option maxRecDepth 20000 in
theorem mlX5_118 : ai_ML RX5 118 yX5_spells := Or.inl ((ai_in3 31 rfl rfl))
set_option maxRecDepth 20000 in
theorem mlX5_159 : ai_ML RX5 159 yJ0_length_8abf5 := Or.inl ((ai_in3 35 rfl rfl))
set_option maxRecDepth 20000 in
theorem mlJ0_335 : ai_ML RJ0 335 yJ0_coder_7d493 := Or.inl ((ai_in3 39 rfl rfl))
set_option maxRecDepth 20000 in
theorem mlX5_164 : ai_ML RX5 164 yJ0_charAt_5068e := Or.inl ((ai_in3 45 rfl rfl))
set_option maxRecDepth 20000 in
theorem mlJ0_492 : ai_ML RJ0 492 yJ0_isLatin1_aae02 := Or.inl ((ai_in3 49 rfl rfl))
set_option maxRecDepth 20000 in
theorem mlJ0_495 : ai_ML RJ0 495 yJ1_charAt_3b067 := Or.inl ((ai_in3 53 rfl rfl))
set_option maxRecDepth 20000 in
theorem mlJ1_9 : ai_ML RJ1 9 yJ0_checkIndex_df160 := Or.inl ((ai_in3 56 rfl rfl))
set_option maxRecDepth 20000 in
theorem mlJ0_1059 : ai_ML RJ0 1059 yJ3_checkIndex_8e157 := Or.inl ((ai_in3 61 rfl rfl))
set_option maxRecDepth 20000 in
theorem mlJ0_498 : ai_ML RJ0 498 yJ2_charAt_3b067 := Or.inl ((ai_in3 64 rfl rfl))
set_option maxRecDepth 20000 in
theorem mlJ2_67 : ai_ML RJ2 67 yJ2_checkIndex_2214a := Or.inl ((ai_in3 67 rfl rfl))
set_option maxRecDepth 20000 in
theorem mlJ2_48 : ai_ML RJ2 48 yJ2_length_9d52b := Or.inl ((ai_in3 70 rfl rfl))
set_option maxRecDepth 20000 in
theorem mlJ2_414 : ai_ML RJ2 414 yJ0_checkIndex_df160 := Or.inl ((ai_in3 73 rfl rfl))
set_option maxRecDepth 20000 in
theorem mlJ2_71 : ai_ML RJ2 71 yJ2_getChar_3b067 := Or.inl ((ai_in3 74 rfl rfl))
set_option maxRecDepth 20000 in
theorem mlX5_112 : ai_ML RX5 112 yX5_wordOf := Or.inl ((ai_in3 92 rfl rfl))
set_option maxRecDepth 20000 in
theorem mlX5_135 : ai_ML RX5 135 yX5_spelling := Or.inl ((ai_in3 96 rfl rfl))
set_option maxRecDepth 20000 in
theorem mlX5_104 : ai_ML RX5 104 yX5_takeSign := Or.inl ((ai_in3 110 rfl rfl))
set_option maxRecDepth 20000 in
theorem mlX5_168 : ai_ML RX5 168 yX5_signKind := Or.inl ((ai_in3 114 rfl rfl))
set_option maxRecDepth 20000 in
theorem mlX5_78 : ai_ML RX5 78 yX5_follow := Or.inl ((ai_in3 128 rfl rfl))
set_option maxRecDepth 20000 in
theorem mlX5_183 : ai_ML RX5 183 yX5_openClause := Or.inl ((ai_in3 132 rfl rfl))
set_option maxRecDepth 20000 in
theorem mlX5_205 : ai_ML RX5 205 yX5_fail := Or.inl ((ai_in3 136 rfl rfl))
set_option maxRecDepth 20000 in
theorem mlX5_186 : ai_ML RX5 186 yX5_putValue := Or.inl ((ai_in3 140 rfl rfl))
set_option maxRecDepth 20000 in
theorem mlX5_209 : ai_ML RX5 209 yX5_step := Or.inl ((ai_in3 145 rfl rfl))
set_option maxRecDepth 20000 in
theorem mlX5_190 : ai_ML RX5 190 yX5_followValue := Or.inl ((ai_in3 149 rfl rfl))
set_option maxRecDepth 20000 in
theorem mlX5_212 : ai_ML RX5 212 yX5_isArithmetic := Or.inl ((ai_in3 153 rfl rfl))
set_option maxRecDepth 20000 in
theorem mlX5_216 : ai_ML RX5 216 yX5_join := Or.inl ((ai_in3 157 rfl rfl))
set_option maxRecDepth 20000 in
theorem mlX5_233 : ai_ML RX5 233 yX5_rank := Or.inl ((ai_in3 161 rfl rfl))
set_option maxRecDepth 20000 in
theorem mlX5_219 : ai_ML RX5 219 yX5_settle := Or.inl ((ai_in3 164 rfl rfl))
set_option maxRecDepth 20000 in
theorem mlX5_225 : ai_ML RX5 225 yX5_putBy := Or.inl ((ai_in3 168 rfl rfl))
set_option maxRecDepth 20000 in
theorem mlX5_222 : ai_ML RX5 222 yX5_closeClause := Or.inl ((ai_in3 172 rfl rfl))
set_option maxRecDepth 20000 in
theorem mlX5_193 : ai_ML RX5 193 yX5_openFact := Or.inl ((ai_in3 178 rfl rfl))
set_option maxRecDepth 20000 in
theorem mlX5_196 : ai_ML RX5 196 yX5_followLeft := Or.inl ((ai_in3 182 rfl rfl))
set_option maxRecDepth 20000 in
theorem mlX5_199 : ai_ML RX5 199 yX5_followRight := Or.inl ((ai_in3 186 rfl rfl))
set_option maxRecDepth 20000 in
theorem mlX5_202 : ai_ML RX5 202 yX5_followFact := Or.inl ((ai_in3 190 rfl rfl))
set_option maxRecDepth 20000 in
theorem mlX5_228 : ai_ML RX5 228 yX5_closeBracket := Or.inl ((ai_in3 194 rfl rfl))
set_option maxRecDepth 20000 in
theorem mlX11_165 : ai_ML RX11 165 yX5_lawRead := Or.inl ((ai_in3 198 rfl rfl))
set_option maxRecDepth 20000 in
theorem mlX5_83 : ai_ML RX5 83 yX3_init := Or.inl ((ai_in3 204 rfl rfl))
set_option maxRecDepth 20000 in
theorem mlX3_1 : Cond.methodLink RX3 1 Lib.objectInit ∈ ai_T := (ai_in3 207 rfl rfl)
set_option maxRecDepth 20000 in
theorem mlX3_7 : ai_ML RX3 7 yJ9_min_7cf53 := Or.inl ((ai_in3 208 rfl rfl))
set_option maxRecDepth 20000 in
theorem mlX3_13 : ai_ML RX3 13 yJ9_max_7cf53 := Or.inl ((ai_in3 209 rfl rfl))
set_option maxRecDepth 20000 in
theorem mlX3_22 : Cond.methodLink RX3 22 arraycopyName ∈ ai_T := (ai_in3 210 rfl rfl)
set_option maxRecDepth 20000 in
theorem mlL_61 : ai_ML RL 61 yX11_gives := Or.inl ((ai_in3 219 rfl rfl))
set_option maxRecDepth 20000 in
theorem mlX11_169 : ai_ML RX11 169 yX11_lawOf := Or.inl ((ai_in3 223 rfl rfl))
set_option maxRecDepth 20000 in
theorem mlX11_174 : ai_ML RX11 174 yX7_weigh := Or.inl ((ai_in3 228 rfl rfl))
set_option maxRecDepth 20000 in
theorem mlX7_26 : ai_ML RX7 26 yX7_drop := Or.inl ((ai_in3 233 rfl rfl))
set_option maxRecDepth 20000 in
theorem mlX7_30 : ai_ML RX7 30 yX7_held := Or.inl ((ai_in3 237 rfl rfl))
set_option maxRecDepth 20000 in
theorem mlX7_55 : ai_ML RX7 55 yJ9_min_f86c9 := Or.inl ((ai_in4 2 rfl rfl))
set_option maxRecDepth 20000 in
theorem mlX7_61 : ai_ML RX7 61 yJ9_max_f86c9 := Or.inl ((ai_in4 3 rfl rfl))
set_option maxRecDepth 20000 in
theorem mlX7_36 : ai_ML RX7 36 yX7_lift := Or.inl ((ai_in4 6 rfl rfl))
set_option maxRecDepth 20000 in
theorem mlX7_41 : ai_ML RX7 41 yX1_word := Or.inl ((ai_in4 11 rfl rfl))
set_option maxRecDepth 20000 in
theorem mlX1_48 : ai_ML RX1 48 yX1_weekOf := Or.inl ((ai_in4 15 rfl rfl))
set_option maxRecDepth 20000 in
theorem mlX1_57 : ai_ML RX1 57 yX1_yearOf := Or.inl ((ai_in4 19 rfl rfl))
set_option maxRecDepth 20000 in
theorem mlX1_52 : ai_ML RX1 52 yJ9_floorDiv_7cf53 := Or.inl ((ai_in4 23 rfl rfl))
set_option maxRecDepth 20000 in
theorem mlX1_60 : ai_ML RX1 60 yX1_ageAt := Or.inl ((ai_in4 26 rfl rfl))
set_option maxRecDepth 20000 in
theorem mlX7_47 : ai_ML RX7 47 yX7_operate := Or.inl ((ai_in4 30 rfl rfl))
set_option maxRecDepth 20000 in
theorem mlX7_65 : ai_ML RX7 65 yX7_joined := Or.inl ((ai_in4 35 rfl rfl))
set_option maxRecDepth 20000 in
theorem mlX7_69 : ai_ML RX7 69 yX7_holds := Or.inl ((ai_in4 38 rfl rfl))
set_option maxRecDepth 20000 in
theorem mlL_65 : ai_ML RL 65 yX11_two := Or.inl ((ai_in4 41 rfl rfl))
set_option maxRecDepth 20000 in
theorem mlX11_178 : ai_ML RX11 178 yX11_isPair := Or.inl ((ai_in4 45 rfl rfl))
set_option maxRecDepth 20000 in
theorem mlX11_201 : ai_ML RX11 201 yX11_hasBoth := Or.inl ((ai_in4 49 rfl rfl))
set_option maxRecDepth 20000 in
theorem mlX11_183 : ai_ML RX11 183 yX11_measure := Or.inl ((ai_in4 54 rfl rfl))
set_option maxRecDepth 20000 in
theorem mlX11_248 : ai_ML RX11 248 yX2_gather := Or.inl ((ai_in4 58 rfl rfl))
set_option maxRecDepth 20000 in
theorem mlX2_61 : ai_ML RX2 61 yX1_isKnown := Or.inl ((ai_in4 62 rfl rfl))
set_option maxRecDepth 20000 in
theorem mlX2_65 : ai_ML RX2 65 yX2_enter := Or.inl ((ai_in4 63 rfl rfl))
set_option maxRecDepth 20000 in
theorem mlX2_69 : ai_ML RX2 69 yX8_at := Or.inl ((ai_in4 67 rfl rfl))
set_option maxRecDepth 20000 in
theorem mlX2_73 : ai_ML RX2 73 yX2_find := Or.inl ((ai_in4 68 rfl rfl))
set_option maxRecDepth 20000 in
theorem mlX2_95 : ai_ML RX2 95 yX11_isWithin := Or.inr ⟨"EachLater", (ai_inN4 72 rfl rfl)⟩
set_option maxRecDepth 20000 in
theorem mlX2_88 : ai_ML RX2 88 yX2_has := Or.inl ((ai_in4 73 rfl rfl))
set_option maxRecDepth 20000 in
theorem mlX2_77 : ai_ML RX2 77 yX2_ringed := Or.inl ((ai_in4 77 rfl rfl))
set_option maxRecDepth 20000 in
theorem mlX2_80 : ai_ML RX2 80 yX2_open := Or.inl ((ai_in4 81 rfl rfl))
set_option maxRecDepth 20000 in
theorem mlX2_84 : ai_ML RX2 84 yX2_join := Or.inl ((ai_in4 85 rfl rfl))
set_option maxRecDepth 20000 in
theorem mlX2_92 : ai_ML RX2 92 yX1_reduced := Or.inl ((ai_in4 89 rfl rfl))
set_option maxRecDepth 20000 in
theorem mlX11_339 : ai_ML RX11 339 yX4_measure := Or.inl ((ai_in4 90 rfl rfl))
set_option maxRecDepth 20000 in
theorem mlX4_22 : ai_ML RX4 22 yX9_clear := Or.inl ((ai_in4 94 rfl rfl))
set_option maxRecDepth 20000 in
theorem mlX4_31 : ai_ML RX4 31 yX2_isFeigned := Or.inl ((ai_in4 95 rfl rfl))
set_option maxRecDepth 20000 in
theorem mlX4_35 : ai_ML RX4 35 yX4_measureRing := Or.inl ((ai_in4 99 rfl rfl))
set_option maxRecDepth 20000 in
theorem mlX4_43 : ai_ML RX4 43 yX2_has := Or.inl ((ai_in4 103 rfl rfl))
set_option maxRecDepth 20000 in
theorem mlX4_49 : ai_ML RX4 49 yX4_of := Or.inl ((ai_in4 104 rfl rfl))
set_option maxRecDepth 20000 in
theorem mlX4_53 : ai_ML RX4 53 yX2_difference := Or.inl ((ai_in4 108 rfl rfl))
set_option maxRecDepth 20000 in
theorem mlX2_110 : ai_ML RX2 110 yX2_lessMean := Or.inl ((ai_in4 112 rfl rfl))
set_option maxRecDepth 20000 in
theorem mlX2_101 : ai_ML RX2 101 yJ9_floorDiv_f86c9 := Or.inl ((ai_in4 117 rfl rfl))
set_option maxRecDepth 20000 in
theorem mlX4_57 : ai_ML RX4 57 yX9_add := Or.inl ((ai_in4 120 rfl rfl))
set_option maxRecDepth 20000 in
theorem mlX11_186 : ai_ML RX11 186 yX4_of := Or.inl ((ai_in4 121 rfl rfl))
set_option maxRecDepth 20000 in
theorem mlX11_190 : ai_ML RX11 190 yX9_mean := Or.inl ((ai_in4 122 rfl rfl))
set_option maxRecDepth 20000 in
theorem mlX9_32 : ai_ML RX9 32 yJ9_floorDiv_f86c9 := Or.inl ((ai_in4 126 rfl rfl))
set_option maxRecDepth 20000 in
theorem mlX11_194 : ai_ML RX11 194 yX9_span := Or.inl ((ai_in4 127 rfl rfl))
set_option maxRecDepth 20000 in
theorem mlX11_197 : ai_ML RX11 197 yX4_width := Or.inl ((ai_in4 131 rfl rfl))
set_option maxRecDepth 20000 in
theorem mlX4_64 : ai_ML RX4 64 yX9_span := Or.inl ((ai_in4 135 rfl rfl))
set_option maxRecDepth 20000 in
theorem mlL_70 : ai_ML RL 70 yX11_rope := Or.inl ((ai_in4 136 rfl rfl))
set_option maxRecDepth 20000 in
theorem mlX11_204 : ai_ML RX11 204 yX11_tie := Or.inl ((ai_in4 140 rfl rfl))
set_option maxRecDepth 20000 in
theorem mlX11_342 : ai_ML RX11 342 yX6_lead := Or.inl ((ai_in4 144 rfl rfl))
set_option maxRecDepth 20000 in
theorem mlX6_24 : ai_ML RX6 24 yX6_shorten := Or.inl ((ai_in4 149 rfl rfl))
set_option maxRecDepth 20000 in
theorem mlX6_52 : ai_ML RX6 52 yX6_tollBy := Or.inl ((ai_in4 153 rfl rfl))
set_option maxRecDepth 20000 in
theorem mlX6_28 : ai_ML RX6 28 yX6_reach := Or.inl ((ai_in4 157 rfl rfl))
set_option maxRecDepth 20000 in
theorem mlX6_60 : ai_ML RX6 60 yX11_isWithin := Or.inr ⟨"EachLater", (ai_inN4 161 rfl rfl)⟩
set_option maxRecDepth 20000 in
theorem mlX6_40 : ai_ML RX6 40 yX4_areMet := Or.inl ((ai_in4 162 rfl rfl))
set_option maxRecDepth 20000 in
theorem mlX6_46 : ai_ML RX6 46 yX4_width := Or.inl ((ai_in4 166 rfl rfl))
set_option maxRecDepth 20000 in
theorem mlX6_32 : ai_ML RX6 32 yX6_firstOnward := Or.inl ((ai_in4 168 rfl rfl))
set_option maxRecDepth 20000 in
theorem mlX6_36 : ai_ML RX6 36 yX6_sumAlong := Or.inl ((ai_in4 172 rfl rfl))
set_option maxRecDepth 20000 in
theorem mlX6_56 : ai_ML RX6 56 yX6_links := Or.inl ((ai_in4 176 rfl rfl))
set_option maxRecDepth 20000 in
theorem mlX6_64 : ai_ML RX6 64 yX4_of := Or.inl ((ai_in4 180 rfl rfl))
set_option maxRecDepth 20000 in
theorem mlX6_68 : ai_ML RX6 68 yX9_mean := Or.inl ((ai_in4 181 rfl rfl))
set_option maxRecDepth 20000 in
theorem mlX11_208 : ai_ML RX11 208 yX6_reach := Or.inl ((ai_in4 182 rfl rfl))
set_option maxRecDepth 20000 in
theorem mlX11_211 : ai_ML RX11 211 yX6_links := Or.inl ((ai_in4 183 rfl rfl))
set_option maxRecDepth 20000 in
theorem mlX11_215 : ai_ML RX11 215 yX6_lean := Or.inl ((ai_in4 184 rfl rfl))
set_option maxRecDepth 20000 in
theorem mlX11_219 : ai_ML RX11 219 yX6_width := Or.inl ((ai_in4 188 rfl rfl))
set_option maxRecDepth 20000 in
theorem mlL_74 : ai_ML RL 74 yX11_knot := Or.inl ((ai_in4 192 rfl rfl))
set_option maxRecDepth 20000 in
theorem mlX11_221 : ai_ML RX11 221 yX6_along := Or.inl ((ai_in4 196 rfl rfl))
set_option maxRecDepth 20000 in
theorem mlL_78 : ai_ML RL 78 yX11_far := Or.inl ((ai_in4 200 rfl rfl))
set_option maxRecDepth 20000 in
theorem mlL_82 : ai_ML RL 82 yX11_own := Or.inl ((ai_in4 204 rfl rfl))
set_option maxRecDepth 20000 in
theorem mlX11_227 : ai_ML RX11 227 yX11_tallyOwn := Or.inl ((ai_in4 208 rfl rfl))
set_option maxRecDepth 20000 in
theorem mlX11_330 : ai_ML RX11 330 yX1_isOwn := Or.inl ((ai_in4 212 rfl rfl))
set_option maxRecDepth 20000 in
theorem mlX1_44 : ai_ML RX1 44 yX1_isKnown := Or.inl ((ai_in4 216 rfl rfl))
set_option maxRecDepth 20000 in
theorem mlX11_333 : ai_ML RX11 333 yX1_yearOf := Or.inl ((ai_in4 217 rfl rfl))
set_option maxRecDepth 20000 in
theorem mlX11_336 : ai_ML RX11 336 yX1_late := Or.inl ((ai_in4 218 rfl rfl))
set_option maxRecDepth 20000 in
theorem mlX11_230 : ai_ML RX11 230 yX9_thousandths := Or.inl ((ai_in4 222 rfl rfl))
set_option maxRecDepth 20000 in
theorem mlL_86 : ai_ML RL 86 yX11_left := Or.inl ((ai_in4 227 rfl rfl))
set_option maxRecDepth 20000 in
theorem mlX11_235 : ai_ML RX11 235 yX11_leftBy := Or.inl ((ai_in4 232 rfl rfl))
set_option maxRecDepth 20000 in
theorem mlL_91 : ai_ML RL 91 yX11_best := Or.inl ((ai_in4 237 rfl rfl))
set_option maxRecDepth 20000 in
theorem mlX11_239 : ai_ML RX11 239 yX11_leastLeft := Or.inl ((ai_in5 1 rfl rfl))
set_option maxRecDepth 20000 in
theorem mlX11_244 : ai_ML RX11 244 yX11_stillBits := Or.inl ((ai_in5 6 rfl rfl))
set_option maxRecDepth 20000 in
theorem mlL_95 : ai_ML RL 95 yX11_scatter := Or.inl ((ai_in5 10 rfl rfl))
set_option maxRecDepth 20000 in
theorem mlX11_252 : ai_ML RX11 252 yX2_scatterOf := Or.inl ((ai_in5 14 rfl rfl))
set_option maxRecDepth 20000 in
theorem mlX2_124 : ai_ML RX2 124 yJ6_bitCount_0f7a4 := Or.inl ((ai_in5 18 rfl rfl))
set_option maxRecDepth 20000 in
theorem mlX2_129 : ai_ML RX2 129 yJ9_max_7cf53 := Or.inl ((ai_in5 24 rfl rfl))
set_option maxRecDepth 20000 in
theorem mlL_100 : ai_ML RL 100 yX11_finest := Or.inl ((ai_in5 26 rfl rfl))
set_option maxRecDepth 20000 in
theorem mlL_104 : ai_ML RL 104 yX11_moved := Or.inl ((ai_in5 31 rfl rfl))
set_option maxRecDepth 20000 in
theorem mlX11_257 : ai_ML RX11 257 yJ9_abs_067f4 := Or.inl ((ai_in5 35 rfl rfl))
set_option maxRecDepth 20000 in
theorem mlL_108 : ai_ML RL 108 yX11_longitude := Or.inl ((ai_in5 38 rfl rfl))
set_option maxRecDepth 20000 in
theorem mlX11_263 : ai_ML RX11 263 yX11_tallyHouses := Or.inl ((ai_in5 42 rfl rfl))
set_option maxRecDepth 20000 in
theorem mlX11_349 : ai_ML RX11 349 yX2_isBy := Or.inl ((ai_in5 46 rfl rfl))
set_option maxRecDepth 20000 in
theorem mlX11_352 : ai_ML RX11 352 yX11_isOfHouse := Or.inl ((ai_in5 50 rfl rfl))
set_option maxRecDepth 20000 in
theorem mlX11_358 : ai_ML RX11 358 yX2_isFeigned := Or.inl ((ai_in5 54 rfl rfl))
set_option maxRecDepth 20000 in
theorem mlX11_355 : ai_ML RX11 355 yX11_tallyAcross := Or.inl ((ai_in5 55 rfl rfl))
set_option maxRecDepth 20000 in
theorem mlX11_373 : ai_ML RX11 373 yX2_mean := Or.inl ((ai_in5 59 rfl rfl))
set_option maxRecDepth 20000 in
theorem mlL_112 : ai_ML RL 112 yX11_journey := Or.inl ((ai_in5 63 rfl rfl))
set_option maxRecDepth 20000 in
theorem mlL_116 : ai_ML RL 116 yX11_tied := Or.inl ((ai_in5 67 rfl rfl))
set_option maxRecDepth 20000 in
theorem mlX11_269 : ai_ML RX11 269 yX11_allJourneys := Or.inl ((ai_in5 71 rfl rfl))
set_option maxRecDepth 20000 in
theorem mlX11_272 : ai_ML RX11 272 yX0_begin := Or.inl ((ai_in5 75 rfl rfl))
set_option maxRecDepth 20000 in
theorem mlX0_22 : ai_ML RX0 22 yJ9_min_7cf53 := Or.inl ((ai_in5 79 rfl rfl))
set_option maxRecDepth 20000 in
theorem mlX0_28 : ai_ML RX0 28 yJ9_max_7cf53 := Or.inl ((ai_in5 80 rfl rfl))
set_option maxRecDepth 20000 in
theorem mlX0_31 : ai_ML RX0 31 yX4_areMet := Or.inl ((ai_in5 81 rfl rfl))
set_option maxRecDepth 20000 in
theorem mlX0_37 : ai_ML RX0 37 yX0_bind := Or.inl ((ai_in5 82 rfl rfl))
set_option maxRecDepth 20000 in
theorem mlX0_51 : ai_ML RX0 51 yX0_isApart := Or.inl ((ai_in5 86 rfl rfl))
set_option maxRecDepth 20000 in
theorem mlX0_47 : ai_ML RX0 47 yX11_isWithin := Or.inr ⟨"EachLater", (ai_inN5 90 rfl rfl)⟩
set_option maxRecDepth 20000 in
theorem mlX0_41 : Cond.methodLink RX0 41 arraycopyName ∈ ai_T := (ai_in5 91 rfl rfl)
set_option maxRecDepth 20000 in
theorem mlX11_276 : ai_ML RX11 276 yX0_pairsWith := Or.inl ((ai_in5 92 rfl rfl))
set_option maxRecDepth 20000 in
theorem mlX0_59 : ai_ML RX0 59 yX8_at := Or.inl ((ai_in5 96 rfl rfl))
set_option maxRecDepth 20000 in
theorem mlX0_62 : ai_ML RX0 62 yJ6_bitCount_0f7a4 := Or.inl ((ai_in5 97 rfl rfl))
set_option maxRecDepth 20000 in
theorem mlL_120 : ai_ML RL 120 yX11_plan := Or.inl ((ai_in5 98 rfl rfl))
set_option maxRecDepth 20000 in
theorem mlX11_280 : ai_ML RX11 280 yX11_bestSet := Or.inl ((ai_in5 102 rfl rfl))
set_option maxRecDepth 20000 in
theorem mlX11_283 : ai_ML RX11 283 yX11_weeksOf := Or.inl ((ai_in5 106 rfl rfl))
set_option maxRecDepth 20000 in
theorem mlL_124 : ai_ML RL 124 yX11_next := Or.inl ((ai_in5 110 rfl rfl))
set_option maxRecDepth 20000 in
theorem mlX11_286 : ai_ML RX11 286 yX0_gain := Or.inl ((ai_in5 114 rfl rfl))
set_option maxRecDepth 20000 in
theorem mlL_128 : ai_ML RL 128 yX11_said := Or.inl ((ai_in5 118 rfl rfl))
set_option maxRecDepth 20000 in
theorem mlX11_289 : ai_ML RX11 289 yX2_differences := Or.inl ((ai_in5 122 rfl rfl))
set_option maxRecDepth 20000 in
theorem mlX2_114 : ai_ML RX2 114 yX2_isBy := Or.inl ((ai_in5 126 rfl rfl))
set_option maxRecDepth 20000 in
theorem mlX2_117 : ai_ML RX2 117 yX2_met := Or.inl ((ai_in5 127 rfl rfl))
set_option maxRecDepth 20000 in
theorem mlX2_107 : ai_ML RX2 107 yX2_isFeigned := Or.inl ((ai_in5 131 rfl rfl))
set_option maxRecDepth 20000 in
theorem mlX2_120 : ai_ML RX2 120 yX2_difference := Or.inl ((ai_in5 132 rfl rfl))
set_option maxRecDepth 20000 in
theorem mlX11_293 : ai_ML RX11 293 yX11_waysWithHeads := Or.inl ((ai_in5 133 rfl rfl))
set_option maxRecDepth 20000 in
theorem mlL_133 : ai_ML RL 133 yX11_leans := Or.inl ((ai_in5 136 rfl rfl))
set_option maxRecDepth 20000 in
theorem mlL_138 : ai_ML RL 138 yX11_later := Or.inl ((ai_in5 140 rfl rfl))
set_option maxRecDepth 20000 in
theorem mlX11_296 : ai_ML RX11 296 yX10_begin := Or.inl ((ai_in5 144 rfl rfl))
set_option maxRecDepth 20000 in
theorem mlX11_299 : ai_ML RX11 299 yX11_ownLeanTenths := Or.inl ((ai_in5 148 rfl rfl))
set_option maxRecDepth 20000 in
theorem mlX11_375 : ai_ML RX11 375 yJ9_floorDiv_7cf53 := Or.inl ((ai_in5 152 rfl rfl))
set_option maxRecDepth 20000 in
theorem mlX11_302 : ai_ML RX11 302 yX10_take := Or.inl ((ai_in5 153 rfl rfl))
set_option maxRecDepth 20000 in
theorem mlX10_47 : ai_ML RX10 47 yX11_isWithin := Or.inr ⟨"EachLater", (ai_inN5 157 rfl rfl)⟩
set_option maxRecDepth 20000 in
theorem mlX10_56 : ai_ML RX10 56 yX2_isBy := Or.inl ((ai_in5 158 rfl rfl))
set_option maxRecDepth 20000 in
theorem mlX10_60 : ai_ML RX10 60 yX2_met := Or.inl ((ai_in5 159 rfl rfl))
set_option maxRecDepth 20000 in
theorem mlX11_305 : ai_ML RX11 305 yX10_areMet := Or.inl ((ai_in5 160 rfl rfl))
set_option maxRecDepth 20000 in
theorem mlX11_309 : ai_ML RX11 309 yX10_draw := Or.inl ((ai_in5 164 rfl rfl))
set_option maxRecDepth 20000 in
theorem mlX10_64 : ai_ML RX10 64 yX10_drawWorld := Or.inl ((ai_in5 168 rfl rfl))
set_option maxRecDepth 20000 in
theorem mlX10_68 : ai_ML RX10 68 yX10_apartMean := Or.inl ((ai_in5 176 rfl rfl))
set_option maxRecDepth 20000 in
theorem mlX10_80 : ai_ML RX10 80 yX9_clear := Or.inl ((ai_in5 180 rfl rfl))
set_option maxRecDepth 20000 in
theorem mlX10_86 : ai_ML RX10 86 yX2_lessMean := Or.inl ((ai_in5 181 rfl rfl))
set_option maxRecDepth 20000 in
theorem mlX10_90 : ai_ML RX10 90 yX9_add := Or.inl ((ai_in5 182 rfl rfl))
set_option maxRecDepth 20000 in
theorem mlX10_94 : ai_ML RX10 94 yX9_mean := Or.inl ((ai_in5 183 rfl rfl))
set_option maxRecDepth 20000 in
theorem mlL_142 : ai_ML RL 142 yX11_mark := Or.inl ((ai_in5 184 rfl rfl))
set_option maxRecDepth 20000 in
theorem mlX11_313 : ai_ML RX11 313 yX1_become := Or.inl ((ai_in5 188 rfl rfl))
set_option maxRecDepth 20000 in
theorem mlX1_36 : ai_ML RX1 36 yX8_become := Or.inl ((ai_in5 192 rfl rfl))
set_option maxRecDepth 20000 in
theorem mlX8_29 : Cond.methodLink RX8 29 arraycopyName ∈ ai_T := (ai_in5 196 rfl rfl)
set_option maxRecDepth 20000 in
theorem mlL_146 : ai_ML RL 146 yX11_back := Or.inl ((ai_in5 197 rfl rfl))
set_option maxRecDepth 20000 in
theorem mlL_150 : ai_ML RL 150 yX11_count := Or.inl ((ai_in5 201 rfl rfl))
set_option maxRecDepth 20000 in
theorem mlL_12 : ai_ML RL 12 yX12_init := Or.inl ((ai_in5 207 rfl rfl))
set_option maxRecDepth 20000 in
theorem mlX12_1 : Cond.methodLink RX12 1 Lib.objectInit ∈ ai_T := (ai_in5 210 rfl rfl)
set_option maxRecDepth 20000 in
theorem mlL_17 : ai_ML RL 17 yX12_clock := Or.inl ((ai_in6 191 rfl rfl))
set_option maxRecDepth 20000 in
theorem mlX12_181 : ai_ML RX12 181 yX12_in := Or.inl ((ai_in6 196 rfl rfl))
set_option maxRecDepth 20000 in
theorem mlL_22 : ai_ML RL 22 yX12_observer := Or.inl ((ai_in6 199 rfl rfl))
set_option maxRecDepth 20000 in
theorem mlL_27 : ai_ML RL 27 yX12_star := Or.inl ((ai_in6 204 rfl rfl))
set_option maxRecDepth 20000 in
theorem mlL_32 : ai_ML RL 32 yX12_night := Or.inl ((ai_in6 210 rfl rfl))
set_option maxRecDepth 20000 in
theorem mlL_37 : ai_ML RL 37 yX12_record := Or.inl ((ai_in6 215 rfl rfl))
set_option maxRecDepth 20000 in
theorem mlX12_210 : ai_ML RX12 210 yX12_isNight := Or.inl ((ai_in6 219 rfl rfl))
set_option maxRecDepth 20000 in
theorem mlX12_214 : ai_ML RX12 214 yX12_isStar := Or.inl ((ai_in6 223 rfl rfl))
set_option maxRecDepth 20000 in
theorem mlX12_217 : ai_ML RX12 217 yX12_isObserver := Or.inl ((ai_in6 228 rfl rfl))
set_option maxRecDepth 20000 in
theorem mlX12_220 : ai_ML RX12 220 yX12_isWay := Or.inl ((ai_in6 232 rfl rfl))
set_option maxRecDepth 20000 in
theorem mlL_41 : ai_ML RL 41 yX12_strike := Or.inl ((ai_in6 235 rfl rfl))
set_option maxRecDepth 20000 in
theorem mlX12_223 : ai_ML RX12 223 yX12_isRecord := Or.inl ((ai_in6 239 rfl rfl))
set_option maxRecDepth 20000 in
theorem mlL_46 : ai_ML RL 46 yX12_seen := Or.inl ((ai_in7 3 rfl rfl))
set_option maxRecDepth 20000 in
theorem mlX12_230 : ai_ML RX12 230 yX12_isWeek := Or.inl ((ai_in7 7 rfl rfl))
set_option maxRecDepth 20000 in
theorem mlX12_234 : ai_ML RX12 234 yX12_counts := Or.inl ((ai_in7 11 rfl rfl))
set_option maxRecDepth 20000 in
theorem mlX12_238 : ai_ML RX12 238 yX12_reduced := Or.inl ((ai_in7 15 rfl rfl))
set_option maxRecDepth 20000 in
theorem mlX12_226 : ai_ML RX12 226 yX12_threaded := Or.inl ((ai_in7 19 rfl rfl))
set_option maxRecDepth 20000 in
theorem mlL_51 : ai_ML RL 51 yX12_feed := Or.inl ((ai_in7 23 rfl rfl))
set_option maxRecDepth 20000 in
theorem mlX12_244 : ai_ML RX12 244 yX12_put := Or.inl ((ai_in7 27 rfl rfl))
set_option maxRecDepth 20000 in
theorem mlL_55 : ai_ML RL 55 yX12_end := Or.inl ((ai_in7 31 rfl rfl))
set_option maxRecDepth 20000 in
theorem mlL_60 : ai_ML RL 60 yX12_law := Or.inl ((ai_in7 35 rfl rfl))
set_option maxRecDepth 20000 in
theorem mlX12_371 : ai_ML RX12 371 yX12_clause := Or.inl ((ai_in7 39 rfl rfl))
set_option maxRecDepth 20000 in
theorem mlX12_287 : ai_ML RX12 287 yX12_blanks := Or.inl ((ai_in7 43 rfl rfl))
set_option maxRecDepth 20000 in
theorem mlX12_270 : ai_ML RX12 270 yX12_sign := Or.inl ((ai_in7 47 rfl rfl))
set_option maxRecDepth 20000 in
theorem mlX12_290 : ai_ML RX12 290 yX12_stands := Or.inl ((ai_in7 52 rfl rfl))
set_option maxRecDepth 20000 in
theorem mlX12_278 : ai_ML RX12 278 yJ0_length_8abf5 := Or.inl ((ai_in7 56 rfl rfl))
set_option maxRecDepth 20000 in
theorem mlX12_283 : ai_ML RX12 283 yJ0_charAt_5068e := Or.inl ((ai_in7 57 rfl rfl))
set_option maxRecDepth 20000 in
theorem mlX12_303 : ai_ML RX12 303 yX12_fails := Or.inl ((ai_in7 58 rfl rfl))
set_option maxRecDepth 20000 in
theorem mlX12_331 : ai_ML RX12 331 yX12_sum := Or.inl ((ai_in7 62 rfl rfl))
set_option maxRecDepth 20000 in
theorem mlX12_328 : ai_ML RX12 328 yX12_term := Or.inl ((ai_in7 66 rfl rfl))
set_option maxRecDepth 20000 in
theorem mlX12_325 : ai_ML RX12 325 yX12_value := Or.inl ((ai_in7 70 rfl rfl))
set_option maxRecDepth 20000 in
theorem mlX12_307 : ai_ML RX12 307 yX12_isDigit := Or.inl ((ai_in7 74 rfl rfl))
set_option maxRecDepth 20000 in
theorem mlX12_312 : ai_ML RX12 312 yX12_digits := Or.inl ((ai_in7 81 rfl rfl))
set_option maxRecDepth 20000 in
theorem mlX12_315 : ai_ML RX12 315 yX12_isCounted := Or.inl ((ai_in7 85 rfl rfl))
set_option maxRecDepth 20000 in
theorem mlX12_318 : ai_ML RX12 318 yX12_entry := Or.inl ((ai_in7 89 rfl rfl))
set_option maxRecDepth 20000 in
theorem mlX12_321 : ai_ML RX12 321 yX12_wordOf := Or.inl ((ai_in7 93 rfl rfl))
set_option maxRecDepth 20000 in
theorem mlX12_365 : ai_ML RX12 365 yX12_takes := Or.inl ((ai_in7 107 rfl rfl))
set_option maxRecDepth 20000 in
theorem mlX12_368 : ai_ML RX12 368 yX12_test := Or.inl ((ai_in7 111 rfl rfl))
set_option maxRecDepth 20000 in
theorem mlX12_351 : ai_ML RX12 351 yX12_fact := Or.inl ((ai_in7 115 rfl rfl))
set_option maxRecDepth 20000 in
theorem mlX12_345 : ai_ML RX12 345 yX12_opens := Or.inl ((ai_in7 120 rfl rfl))
set_option maxRecDepth 20000 in
theorem mlX12_348 : ai_ML RX12 348 yX12_compared := Or.inl ((ai_in7 124 rfl rfl))
set_option maxRecDepth 20000 in
theorem mlX12_354 : ai_ML RX12 354 yX12_answers := Or.inl ((ai_in7 128 rfl rfl))
set_option maxRecDepth 20000 in
theorem mlX12_340 : ai_ML RX12 340 yX12_top := Or.inl ((ai_in7 132 rfl rfl))
set_option maxRecDepth 20000 in
theorem mlL_64 : ai_ML RL 64 yX12_gives := Or.inl ((ai_in7 138 rfl rfl))
set_option maxRecDepth 20000 in
theorem mlX12_390 : ai_ML RX12 390 yX12_isLaw := Or.inl ((ai_in7 142 rfl rfl))
set_option maxRecDepth 20000 in
theorem mlX12_393 : ai_ML RX12 393 yX12_given := Or.inl ((ai_in7 146 rfl rfl))
set_option maxRecDepth 20000 in
theorem mlX12_382 : ai_ML RX12 382 yX12_answer := Or.inl ((ai_in7 150 rfl rfl))
set_option maxRecDepth 20000 in
theorem mlX12_378 : ai_ML RX12 378 yX12_both := Or.inl ((ai_in7 154 rfl rfl))
set_option maxRecDepth 20000 in
theorem mlX12_374 : ai_ML RX12 374 yX12_truth := Or.inl ((ai_in7 157 rfl rfl))
set_option maxRecDepth 20000 in
theorem mlL_69 : ai_ML RL 69 yX12_two := Or.inl ((ai_in7 163 rfl rfl))
set_option maxRecDepth 20000 in
theorem mlX12_421 : ai_ML RX12 421 yX12_areTwo := Or.inl ((ai_in7 167 rfl rfl))
set_option maxRecDepth 20000 in
theorem mlX12_426 : ai_ML RX12 426 yX12_meets := Or.inl ((ai_in7 172 rfl rfl))
set_option maxRecDepth 20000 in
theorem mlX12_407 : ai_ML RX12 407 yX12_gathers := Or.inl ((ai_in7 176 rfl rfl))
set_option maxRecDepth 20000 in
theorem mlX12_410 : ai_ML RX12 410 yX12_meet := Or.inl ((ai_in7 180 rfl rfl))
set_option maxRecDepth 20000 in
theorem mlX12_413 : ai_ML RX12 413 yX12_differ := Or.inl ((ai_in7 184 rfl rfl))
set_option maxRecDepth 20000 in
theorem mlX12_403 : ai_ML RX12 403 yX12_floorOf := Or.inl ((ai_in7 188 rfl rfl))
set_option maxRecDepth 20000 in
theorem mlX12_429 : ai_ML RX12 429 yX12_apart := Or.inl ((ai_in7 191 rfl rfl))
set_option maxRecDepth 20000 in
theorem mlX12_417 : ai_ML RX12 417 yX12_span := Or.inl ((ai_in7 195 rfl rfl))
set_option maxRecDepth 20000 in
theorem mlX12_432 : ai_ML RX12 432 yX12_width := Or.inl ((ai_in7 199 rfl rfl))
set_option maxRecDepth 20000 in
theorem mlL_73 : ai_ML RL 73 yX12_rope := Or.inl ((ai_in7 203 rfl rfl))
set_option maxRecDepth 20000 in
theorem mlX12_443 : ai_ML RX12 443 yX12_ropes := Or.inl ((ai_in7 208 rfl rfl))
set_option maxRecDepth 20000 in
theorem mlX12_435 : ai_ML RX12 435 yX12_ropesTo := Or.inl ((ai_in7 212 rfl rfl))
set_option maxRecDepth 20000 in
theorem mlX12_438 : ai_ML RX12 438 yX12_isShorter := Or.inl ((ai_in7 216 rfl rfl))
set_option maxRecDepth 20000 in
theorem mlL_77 : ai_ML RL 77 yX12_knot := Or.inl ((ai_in7 220 rfl rfl))
set_option maxRecDepth 20000 in
theorem mlL_81 : ai_ML RL 81 yX12_far := Or.inl ((ai_in7 224 rfl rfl))
set_option maxRecDepth 20000 in
theorem mlL_85 : ai_ML RL 85 yX12_own := Or.inl ((ai_in7 228 rfl rfl))
set_option maxRecDepth 20000 in
theorem mlX12_450 : ai_ML RX12 450 yX12_isOwn := Or.inl ((ai_in7 234 rfl rfl))
set_option maxRecDepth 20000 in
theorem mlL_90 : ai_ML RL 90 yX12_left := Or.inl ((ai_in7 238 rfl rfl))
set_option maxRecDepth 20000 in
theorem mlX12_453 : ai_ML RX12 453 yX12_leaves := Or.inl ((ai_in8 2 rfl rfl))
set_option maxRecDepth 20000 in
theorem mlL_94 : ai_ML RL 94 yX12_best := Or.inl ((ai_in8 6 rfl rfl))
set_option maxRecDepth 20000 in
theorem mlL_99 : ai_ML RL 99 yX12_scatter := Or.inl ((ai_in8 12 rfl rfl))
set_option maxRecDepth 20000 in
theorem mlX12_462 : ai_ML RX12 462 yX12_scattered := Or.inl ((ai_in8 16 rfl rfl))
set_option maxRecDepth 20000 in
theorem mlL_103 : ai_ML RL 103 yX12_finest := Or.inl ((ai_in8 21 rfl rfl))
set_option maxRecDepth 20000 in
theorem mlL_107 : ai_ML RL 107 yX12_moved := Or.inl ((ai_in8 25 rfl rfl))
set_option maxRecDepth 20000 in
theorem mlX12_465 : ai_ML RX12 465 yX12_mean := Or.inl ((ai_in8 29 rfl rfl))
set_option maxRecDepth 20000 in
theorem mlL_111 : ai_ML RL 111 yX12_longitude := Or.inl ((ai_in8 33 rfl rfl))
set_option maxRecDepth 20000 in
theorem mlL_115 : ai_ML RL 115 yX12_journey := Or.inl ((ai_in8 37 rfl rfl))
set_option maxRecDepth 20000 in
theorem mlL_119 : ai_ML RL 119 yX12_tied := Or.inl ((ai_in8 41 rfl rfl))
set_option maxRecDepth 20000 in
theorem mlX12_474 : ai_ML RX12 474 yX12_ties := Or.inl ((ai_in8 45 rfl rfl))
set_option maxRecDepth 20000 in
theorem mlX12_471 : ai_ML RX12 471 yX12_joins := Or.inl ((ai_in8 49 rfl rfl))
set_option maxRecDepth 20000 in
theorem mlL_123 : ai_ML RL 123 yX12_plan := Or.inl ((ai_in8 53 rfl rfl))
set_option maxRecDepth 20000 in
theorem mlL_127 : ai_ML RL 127 yX12_next := Or.inl ((ai_in8 58 rfl rfl))
set_option maxRecDepth 20000 in
theorem mlL_132 : ai_ML RL 132 yX12_said := Or.inl ((ai_in8 62 rfl rfl))
set_option maxRecDepth 20000 in
theorem mlL_137 : ai_ML RL 137 yX12_leans := Or.inl ((ai_in8 66 rfl rfl))
set_option maxRecDepth 20000 in
theorem mlL_141 : ai_ML RL 141 yX12_later := Or.inl ((ai_in8 70 rfl rfl))
set_option maxRecDepth 20000 in
theorem mlX12_485 : ai_ML RX12 485 yX12_draws := Or.inl ((ai_in8 75 rfl rfl))
set_option maxRecDepth 20000 in
theorem mlL_145 : ai_ML RL 145 yX12_mark := Or.inl ((ai_in8 83 rfl rfl))
set_option maxRecDepth 20000 in
theorem mlX12_507 : ai_ML RX12 507 yX12_carries := Or.inl ((ai_in8 87 rfl rfl))
set_option maxRecDepth 20000 in
theorem mlX12_503 : ai_ML RX12 503 yX12_carry := Or.inl ((ai_in8 91 rfl rfl))
set_option maxRecDepth 20000 in
theorem mlL_149 : ai_ML RL 149 yX12_back := Or.inl ((ai_in8 95 rfl rfl))
set_option maxRecDepth 20000 in
theorem mlL_153 : ai_ML RL 153 yX12_count := Or.inl ((ai_in8 99 rfl rfl))
