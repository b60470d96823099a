/-! 09: what the tables say of classes, fields, methods (printed by wip/whole/facts.py) -/
theorem ai_in1 {w : Cond} (i : Nat) (h : tables_1_1[i]? = some w) (hg : goodWord w = true) : w ∈ ai_T := List.mem_filter.mpr ⟨List.mem_append_right _ (List.mem_append_left _ (List.mem_of_getElem? h)), hg⟩
theorem ai_inN1 {w : Cond} (i : Nat) (h : tables_1_1[i]? = some w) (hg : ai_isN w = true) : w ∈ ai_TN := List.mem_filter.mpr ⟨List.mem_append_right _ (List.mem_append_left _ (List.mem_of_getElem? h)), hg⟩
theorem ai_in2 {w : Cond} (i : Nat) (h : tables_1_2[i]? = some w) (hg : goodWord w = true) : w ∈ ai_T := List.mem_filter.mpr ⟨List.mem_append_right _ (List.mem_append_right _ (List.mem_append_left _ (List.mem_of_getElem? h))), hg⟩
theorem ai_inN2 {w : Cond} (i : Nat) (h : tables_1_2[i]? = some w) (hg : ai_isN w = true) : w ∈ ai_TN := List.mem_filter.mpr ⟨List.mem_append_right _ (List.mem_append_right _ (List.mem_append_left _ (List.mem_of_getElem? h))), hg⟩
theorem ai_in3 {w : Cond} (i : Nat) (h : tables_1_3[i]? = some w) (hg : goodWord w = true) : w ∈ ai_T := List.mem_filter.mpr ⟨List.mem_append_right _ (List.mem_append_right _ (List.mem_append_right _ (List.mem_append_left _ (List.mem_of_getElem? h)))), hg⟩
theorem ai_inN3 {w : Cond} (i : Nat) (h : tables_1_3[i]? = some w) (hg : ai_isN w = true) : w ∈ ai_TN := List.mem_filter.mpr ⟨List.mem_append_right _ (List.mem_append_right _ (List.mem_append_right _ (List.mem_append_left _ (List.mem_of_getElem? h)))), hg⟩
theorem ai_in4 {w : Cond} (i : Nat) (h : tables_1_4[i]? = some w) (hg : goodWord w = true) : w ∈ ai_T := List.mem_filter.mpr ⟨List.mem_append_right _ (List.mem_append_right _ (List.mem_append_right _ (List.mem_append_right _ (List.mem_append_left _ (List.mem_of_getElem? h))))), hg⟩
theorem ai_inN4 {w : Cond} (i : Nat) (h : tables_1_4[i]? = some w) (hg : ai_isN w = true) : w ∈ ai_TN := List.mem_filter.mpr ⟨List.mem_append_right _ (List.mem_append_right _ (List.mem_append_right _ (List.mem_append_right _ (List.mem_append_left _ (List.mem_of_getElem? h))))), hg⟩
theorem ai_in5 {w : Cond} (i : Nat) (h : tables_1_5[i]? = some w) (hg : goodWord w = true) : w ∈ ai_T := List.mem_filter.mpr ⟨List.mem_append_right _ (List.mem_append_right _ (List.mem_append_right _ (List.mem_append_right _ (List.mem_append_right _ (List.mem_append_left _ (List.mem_of_getElem? h)))))), hg⟩
theorem ai_inN5 {w : Cond} (i : Nat) (h : tables_1_5[i]? = some w) (hg : ai_isN w = true) : w ∈ ai_TN := List.mem_filter.mpr ⟨List.mem_append_right _ (List.mem_append_right _ (List.mem_append_right _ (List.mem_append_right _ (List.mem_append_right _ (List.mem_append_left _ (List.mem_of_getElem? h)))))), hg⟩
theorem ai_in6 {w : Cond} (i : Nat) (h : tables_1_6[i]? = some w) (hg : goodWord w = true) : w ∈ ai_T := List.mem_filter.mpr ⟨List.mem_append_right _ (List.mem_append_right _ (List.mem_append_right _ (List.mem_append_right _ (List.mem_append_right _ (List.mem_append_right _ (List.mem_append_left _ (List.mem_of_getElem? h))))))), hg⟩
theorem ai_inN6 {w : Cond} (i : Nat) (h : tables_1_6[i]? = some w) (hg : ai_isN w = true) : w ∈ ai_TN := List.mem_filter.mpr ⟨List.mem_append_right _ (List.mem_append_right _ (List.mem_append_right _ (List.mem_append_right _ (List.mem_append_right _ (List.mem_append_right _ (List.mem_append_left _ (List.mem_of_getElem? h))))))), hg⟩
theorem ai_in7 {w : Cond} (i : Nat) (h : tables_1_7[i]? = some w) (hg : goodWord w = true) : w ∈ ai_T := List.mem_filter.mpr ⟨List.mem_append_right _ (List.mem_append_right _ (List.mem_append_right _ (List.mem_append_right _ (List.mem_append_right _ (List.mem_append_right _ (List.mem_append_right _ (List.mem_append_left _ (List.mem_of_getElem? h)))))))), hg⟩
theorem ai_inN7 {w : Cond} (i : Nat) (h : tables_1_7[i]? = some w) (hg : ai_isN w = true) : w ∈ ai_TN := List.mem_filter.mpr ⟨List.mem_append_right _ (List.mem_append_right _ (List.mem_append_right _ (List.mem_append_right _ (List.mem_append_right _ (List.mem_append_right _ (List.mem_append_right _ (List.mem_append_left _ (List.mem_of_getElem? h)))))))), hg⟩
theorem ai_in8 {w : Cond} (i : Nat) (h : tables_1_8[i]? = some w) (hg : goodWord w = true) : w ∈ ai_T := List.mem_filter.mpr ⟨List.mem_append_right _ (List.mem_append_right _ (List.mem_append_right _ (List.mem_append_right _ (List.mem_append_right _ (List.mem_append_right _ (List.mem_append_right _ (List.mem_append_right _ ((List.mem_of_getElem? h))))))))), hg⟩
theorem ai_inN8 {w : Cond} (i : Nat) (h : tables_1_8[i]? = some w) (hg : ai_isN w = true) : w ∈ ai_TN := List.mem_filter.mpr ⟨List.mem_append_right _ (List.mem_append_right _ (List.mem_append_right _ (List.mem_append_right _ (List.mem_append_right _ (List.mem_append_right _ (List.mem_append_right _ (List.mem_append_right _ ((List.mem_of_getElem? h))))))))), hg⟩
theorem kX0 : ai_K1 0 RX0 TX0 3 := ⟨rfl, by decide +kernel, tyX0_ok, nmX0⟩
set_option maxRecDepth 20000 in
theorem nX0 : Cond.instantiable RX0 3 ∈ ai_T ∧ Cond.initialized RX0 ∈ ai_T := ⟨(ai_in2 29 rfl rfl), (ai_in1 10 rfl rfl)⟩
theorem kX1 : ai_K1 1 RX1 TX1 6 := ⟨rfl, by decide +kernel, tyX1_ok, nmX1⟩
set_option maxRecDepth 20000 in
theorem nX1 : Cond.instantiable RX1 6 ∈ ai_T ∧ Cond.initialized RX1 ∈ ai_T := ⟨(ai_in1 30 rfl rfl), (ai_in1 2 rfl rfl)⟩
theorem kX2 : ai_K1 2 RX2 TX2 13 := ⟨rfl, by decide +kernel, tyX2_ok, nmX2⟩
set_option maxRecDepth 20000 in
theorem nX2 : Cond.instantiable RX2 13 ∈ ai_T ∧ Cond.initialized RX2 ∈ ai_T := ⟨(ai_in1 161 rfl rfl), (ai_in1 6 rfl rfl)⟩
theorem kX3 : ai_K1 3 RX3 TX3 1 := ⟨rfl, by decide +kernel, tyX3_ok, nmX3⟩
set_option maxRecDepth 20000 in
theorem nX3 : Cond.instantiable RX3 1 ∈ ai_T ∧ Cond.initialized RX3 ∈ ai_T := ⟨(ai_in3 203 rfl rfl), (ai_in1 18 rfl rfl)⟩
theorem kX4 : ai_K1 4 RX4 TX4 2 := ⟨rfl, by decide +kernel, tyX4_ok, nmX4⟩
set_option maxRecDepth 20000 in
theorem nX4 : Cond.instantiable RX4 2 ∈ ai_T ∧ Cond.initialized RX4 ∈ ai_T := ⟨(ai_in1 217 rfl rfl), (ai_in1 7 rfl rfl)⟩
theorem kX5 : ai_K1 5 RX5 TX5 17 := ⟨rfl, by decide +kernel, tyX5_ok, nmX5⟩
set_option maxRecDepth 20000 in
theorem nX5 : Cond.instantiable RX5 17 ∈ ai_T ∧ Cond.initialized RX5 ∈ ai_T := ⟨(ai_in1 88 rfl rfl), (ai_in1 4 rfl rfl)⟩
theorem kX6 : ai_K1 6 RX6 TX6 3 := ⟨rfl, by decide +kernel, tyX6_ok, nmX6⟩
set_option maxRecDepth 20000 in
theorem nX6 : Cond.instantiable RX6 3 ∈ ai_T ∧ Cond.initialized RX6 ∈ ai_T := ⟨(ai_in2 13 rfl rfl), (ai_in1 9 rfl rfl)⟩
theorem kX7 : ai_K1 7 RX7 TX7 2 := ⟨rfl, by decide +kernel, tyX7_ok, nmX7⟩
set_option maxRecDepth 20000 in
theorem nX7 : Cond.instantiable RX7 2 ∈ ai_T ∧ Cond.initialized RX7 ∈ ai_T := ⟨(ai_in1 148 rfl rfl), (ai_in1 5 rfl rfl)⟩
theorem kX8 : ai_K1 8 RX8 TX8 4 := ⟨rfl, by decide +kernel, tyX8_ok, nmX8⟩
set_option maxRecDepth 20000 in
theorem nX8 : Cond.instantiable RX8 4 ∈ ai_T ∧ Cond.initialized RX8 ∈ ai_T := ⟨(ai_in1 36 rfl rfl), (ai_in1 3 rfl rfl)⟩
theorem kX9 : ai_K1 9 RX9 TX9 4 := ⟨rfl, by decide +kernel, tyX9_ok, nmX9⟩
set_option maxRecDepth 20000 in
theorem nX9 : Cond.instantiable RX9 4 ∈ ai_T ∧ Cond.initialized RX9 ∈ ai_T := ⟨(ai_in1 224 rfl rfl), (ai_in1 8 rfl rfl)⟩
theorem kX10 : ai_K1 10 RX10 TX10 9 := ⟨rfl, by decide +kernel, tyX10_ok, nmX10⟩
set_option maxRecDepth 20000 in
theorem nX10 : Cond.instantiable RX10 9 ∈ ai_T ∧ Cond.initialized RX10 ∈ ai_T := ⟨(ai_in2 45 rfl rfl), (ai_in1 11 rfl rfl)⟩
theorem kX11 : ai_K1 11 RX11 TX11 15 := ⟨rfl, by decide +kernel, tyX11_ok, nmX11⟩
set_option maxRecDepth 20000 in
theorem nX11 : Cond.instantiable RX11 15 ∈ ai_T ∧ Cond.initialized RX11 ∈ ai_T := ⟨(ai_in1 22 rfl rfl), (ai_in1 1 rfl rfl)⟩
theorem kX12 : ai_K1 12 RX12 TX12 73 := ⟨rfl, by decide +kernel, tyX12_ok, nmX12⟩
set_option maxRecDepth 20000 in
theorem nX12 : Cond.instantiable RX12 73 ∈ ai_T ∧ Cond.initialized RX12 ∈ ai_T := ⟨(ai_in5 206 rfl rfl), (ai_in1 12 rfl rfl)⟩
set_option maxRecDepth 20000 in
theorem fX8_15 : ai_F RX8 15 8 0 true := ⟨RX8, TX8, 4, kX8, by decide, rfl, rfl, Or.inl ((ai_in1 41 rfl rfl))⟩
set_option maxRecDepth 20000 in
theorem ffX8_15 : ai_FF RX8 15 8 0 := ⟨RX8, TX8, 4, kX8, by decide, rfl, rfl, (ai_in1 41 rfl rfl)⟩
set_option maxRecDepth 20000 in
theorem fX8_18 : ai_F RX8 18 8 1 true := ⟨RX8, TX8, 4, kX8, by decide, rfl, rfl, Or.inl ((ai_in1 42 rfl rfl))⟩
set_option maxRecDepth 20000 in
theorem ffX8_18 : ai_FF RX8 18 8 1 := ⟨RX8, TX8, 4, kX8, by decide, rfl, rfl, (ai_in1 42 rfl rfl)⟩
set_option maxRecDepth 20000 in
theorem fX8_21 : ai_F RX8 21 8 2 true := ⟨RX8, TX8, 4, kX8, by decide, rfl, rfl, Or.inl ((ai_in1 43 rfl rfl))⟩
set_option maxRecDepth 20000 in
theorem ffX8_21 : ai_FF RX8 21 8 2 := ⟨RX8, TX8, 4, kX8, by decide, rfl, rfl, (ai_in1 43 rfl rfl)⟩
set_option maxRecDepth 20000 in
theorem fX8_9 : ai_F RX8 9 8 3 false := ⟨RX8, TX8, 4, kX8, by decide, rfl, rfl, Or.inl ((ai_in1 44 rfl rfl))⟩
set_option maxRecDepth 20000 in
theorem fX2_58 : ai_F RX2 58 8 3 false := ⟨RX8, TX8, 4, kX8, by decide, rfl, rfl, Or.inr ⟨"EachLater", (ai_inN1 45 rfl rfl)⟩⟩
set_option maxRecDepth 20000 in
theorem fX0_54 : ai_F RX0 54 8 3 false := ⟨RX8, TX8, 4, kX8, by decide, rfl, rfl, Or.inr ⟨"EachLater", (ai_inN1 46 rfl rfl)⟩⟩
set_option maxRecDepth 20000 in
theorem fX11_224 : ai_F RX11 224 8 3 false := ⟨RX8, TX8, 4, kX8, by decide, rfl, rfl, Or.inr ⟨"EachLater", (ai_inN1 47 rfl rfl)⟩⟩
set_option maxRecDepth 20000 in
theorem fX1_9 : ai_F RX1 9 1 0 false := ⟨RX1, TX1, 6, kX1, by decide, rfl, rfl, Or.inl ((ai_in1 58 rfl rfl))⟩
set_option maxRecDepth 20000 in
theorem fX11_101 : ai_F RX11 101 1 0 false := ⟨RX1, TX1, 6, kX1, by decide, rfl, rfl, Or.inr ⟨"EachLater", (ai_inN1 59 rfl rfl)⟩⟩
set_option maxRecDepth 20000 in
theorem fX1_20 : ai_F RX1 20 1 1 true := ⟨RX1, TX1, 6, kX1, by decide, rfl, rfl, Or.inl ((ai_in1 60 rfl rfl))⟩
set_option maxRecDepth 20000 in
theorem ffX1_20 : ai_FF RX1 20 1 1 := ⟨RX1, TX1, 6, kX1, by decide, rfl, rfl, (ai_in1 60 rfl rfl)⟩
set_option maxRecDepth 20000 in
theorem fX11_108 : ai_F RX11 108 1 1 true := ⟨RX1, TX1, 6, kX1, by decide, rfl, rfl, Or.inr ⟨"EachLater", (ai_inN1 61 rfl rfl)⟩⟩
set_option maxRecDepth 20000 in
theorem fX1_24 : ai_F RX1 24 1 2 true := ⟨RX1, TX1, 6, kX1, by decide, rfl, rfl, Or.inl ((ai_in1 62 rfl rfl))⟩
set_option maxRecDepth 20000 in
theorem ffX1_24 : ai_FF RX1 24 1 2 := ⟨RX1, TX1, 6, kX1, by decide, rfl, rfl, (ai_in1 62 rfl rfl)⟩
set_option maxRecDepth 20000 in
theorem fX11_122 : ai_F RX11 122 1 2 true := ⟨RX1, TX1, 6, kX1, by decide, rfl, rfl, Or.inr ⟨"EachLater", (ai_inN1 63 rfl rfl)⟩⟩
set_option maxRecDepth 20000 in
theorem fX1_27 : ai_F RX1 27 1 3 true := ⟨RX1, TX1, 6, kX1, by decide, rfl, rfl, Or.inl ((ai_in1 64 rfl rfl))⟩
set_option maxRecDepth 20000 in
theorem ffX1_27 : ai_FF RX1 27 1 3 := ⟨RX1, TX1, 6, kX1, by decide, rfl, rfl, (ai_in1 64 rfl rfl)⟩
set_option maxRecDepth 20000 in
theorem fX11_128 : ai_F RX11 128 1 3 true := ⟨RX1, TX1, 6, kX1, by decide, rfl, rfl, Or.inr ⟨"EachLater", (ai_inN1 65 rfl rfl)⟩⟩
set_option maxRecDepth 20000 in
theorem fX1_30 : ai_F RX1 30 1 4 true := ⟨RX1, TX1, 6, kX1, by decide, rfl, rfl, Or.inl ((ai_in1 66 rfl rfl))⟩
set_option maxRecDepth 20000 in
theorem ffX1_30 : ai_FF RX1 30 1 4 := ⟨RX1, TX1, 6, kX1, by decide, rfl, rfl, (ai_in1 66 rfl rfl)⟩
set_option maxRecDepth 20000 in
theorem fX2_53 : ai_F RX2 53 1 4 true := ⟨RX1, TX1, 6, kX1, by decide, rfl, rfl, Or.inr ⟨"EachLater", (ai_inN1 67 rfl rfl)⟩⟩
set_option maxRecDepth 20000 in
theorem fX11_135 : ai_F RX11 135 1 4 true := ⟨RX1, TX1, 6, kX1, by decide, rfl, rfl, Or.inr ⟨"EachLater", (ai_inN1 68 rfl rfl)⟩⟩
set_option maxRecDepth 20000 in
theorem fX1_33 : ai_F RX1 33 1 5 true := ⟨RX1, TX1, 6, kX1, by decide, rfl, rfl, Or.inl ((ai_in1 69 rfl rfl))⟩
set_option maxRecDepth 20000 in
theorem ffX1_33 : ai_FF RX1 33 1 5 := ⟨RX1, TX1, 6, kX1, by decide, rfl, rfl, (ai_in1 69 rfl rfl)⟩
set_option maxRecDepth 20000 in
theorem fX11_266 : ai_F RX11 266 1 5 true := ⟨RX1, TX1, 6, kX1, by decide, rfl, rfl, Or.inr ⟨"EachLater", (ai_inN1 70 rfl rfl)⟩⟩
set_option maxRecDepth 20000 in
theorem fX5_9 : ai_F RX5 9 5 0 false := ⟨RX5, TX5, 17, kX5, by decide, rfl, rfl, Or.inl ((ai_in1 94 rfl rfl))⟩
set_option maxRecDepth 20000 in
theorem fX5_15 : ai_F RX5 15 5 1 false := ⟨RX5, TX5, 17, kX5, by decide, rfl, rfl, Or.inl ((ai_in1 95 rfl rfl))⟩
set_option maxRecDepth 20000 in
theorem fX5_19 : ai_F RX5 19 5 2 false := ⟨RX5, TX5, 17, kX5, by decide, rfl, rfl, Or.inl ((ai_in1 96 rfl rfl))⟩
set_option maxRecDepth 20000 in
theorem fX5_22 : ai_F RX5 22 5 3 false := ⟨RX5, TX5, 17, kX5, by decide, rfl, rfl, Or.inl ((ai_in1 97 rfl rfl))⟩
set_option maxRecDepth 20000 in
theorem fX5_26 : ai_F RX5 26 5 4 false := ⟨RX5, TX5, 17, kX5, by decide, rfl, rfl, Or.inl ((ai_in1 98 rfl rfl))⟩
set_option maxRecDepth 20000 in
theorem fX5_29 : ai_F RX5 29 5 5 false := ⟨RX5, TX5, 17, kX5, by decide, rfl, rfl, Or.inl ((ai_in1 99 rfl rfl))⟩
set_option maxRecDepth 20000 in
theorem fX5_32 : ai_F RX5 32 5 6 false := ⟨RX5, TX5, 17, kX5, by decide, rfl, rfl, Or.inl ((ai_in1 100 rfl rfl))⟩
set_option maxRecDepth 20000 in
theorem fX5_35 : ai_F RX5 35 5 7 false := ⟨RX5, TX5, 17, kX5, by decide, rfl, rfl, Or.inl ((ai_in1 101 rfl rfl))⟩
set_option maxRecDepth 20000 in
theorem fX5_38 : ai_F RX5 38 5 8 false := ⟨RX5, TX5, 17, kX5, by decide, rfl, rfl, Or.inl ((ai_in1 102 rfl rfl))⟩
set_option maxRecDepth 20000 in
theorem fX5_41 : ai_F RX5 41 5 9 false := ⟨RX5, TX5, 17, kX5, by decide, rfl, rfl, Or.inl ((ai_in1 103 rfl rfl))⟩
set_option maxRecDepth 20000 in
theorem fX5_45 : ai_F RX5 45 5 10 false := ⟨RX5, TX5, 17, kX5, by decide, rfl, rfl, Or.inl ((ai_in1 104 rfl rfl))⟩
set_option maxRecDepth 20000 in
theorem fX5_48 : ai_F RX5 48 5 11 false := ⟨RX5, TX5, 17, kX5, by decide, rfl, rfl, Or.inl ((ai_in1 105 rfl rfl))⟩
set_option maxRecDepth 20000 in
theorem fX5_51 : ai_F RX5 51 5 12 false := ⟨RX5, TX5, 17, kX5, by decide, rfl, rfl, Or.inl ((ai_in1 106 rfl rfl))⟩
set_option maxRecDepth 20000 in
theorem fX5_54 : ai_F RX5 54 5 13 true := ⟨RX5, TX5, 17, kX5, by decide, rfl, rfl, Or.inl ((ai_in1 107 rfl rfl))⟩
set_option maxRecDepth 20000 in
theorem ffX5_54 : ai_FF RX5 54 5 13 := ⟨RX5, TX5, 17, kX5, by decide, rfl, rfl, (ai_in1 107 rfl rfl)⟩
set_option maxRecDepth 20000 in
theorem fX5_57 : ai_F RX5 57 5 14 false := ⟨RX5, TX5, 17, kX5, by decide, rfl, rfl, Or.inl ((ai_in1 108 rfl rfl))⟩
set_option maxRecDepth 20000 in
theorem fX5_60 : ai_F RX5 60 5 15 true := ⟨RX5, TX5, 17, kX5, by decide, rfl, rfl, Or.inl ((ai_in1 109 rfl rfl))⟩
set_option maxRecDepth 20000 in
theorem ffX5_60 : ai_FF RX5 60 5 15 := ⟨RX5, TX5, 17, kX5, by decide, rfl, rfl, (ai_in1 109 rfl rfl)⟩
set_option maxRecDepth 20000 in
theorem fX5_63 : ai_F RX5 63 5 16 false := ⟨RX5, TX5, 17, kX5, by decide, rfl, rfl, Or.inl ((ai_in1 110 rfl rfl))⟩
set_option maxRecDepth 20000 in
theorem fX7_11 : ai_F RX7 11 7 0 true := ⟨RX7, TX7, 2, kX7, by decide, rfl, rfl, Or.inl ((ai_in1 153 rfl rfl))⟩
set_option maxRecDepth 20000 in
theorem ffX7_11 : ai_FF RX7 11 7 0 := ⟨RX7, TX7, 2, kX7, by decide, rfl, rfl, (ai_in1 153 rfl rfl)⟩
set_option maxRecDepth 20000 in
theorem fX7_15 : ai_F RX7 15 7 1 false := ⟨RX7, TX7, 2, kX7, by decide, rfl, rfl, Or.inl ((ai_in1 154 rfl rfl))⟩
set_option maxRecDepth 20000 in
theorem fX2_9 : ai_F RX2 9 2 0 false := ⟨RX2, TX2, 13, kX2, by decide, rfl, rfl, Or.inl ((ai_in1 166 rfl rfl))⟩
set_option maxRecDepth 20000 in
theorem fX4_25 : ai_F RX4 25 2 0 false := ⟨RX2, TX2, 13, kX2, by decide, rfl, rfl, Or.inr ⟨"EachLater", (ai_inN1 167 rfl rfl)⟩⟩
set_option maxRecDepth 20000 in
theorem fX10_83 : ai_F RX10 83 2 0 false := ⟨RX2, TX2, 13, kX2, by decide, rfl, rfl, Or.inr ⟨"EachLater", (ai_inN1 168 rfl rfl)⟩⟩
set_option maxRecDepth 20000 in
theorem fX11_348 : ai_F RX11 348 2 0 false := ⟨RX2, TX2, 13, kX2, by decide, rfl, rfl, Or.inr ⟨"EachLater", (ai_inN1 169 rfl rfl)⟩⟩
set_option maxRecDepth 20000 in
theorem fX2_15 : ai_F RX2 15 2 1 true := ⟨RX2, TX2, 13, kX2, by decide, rfl, rfl, Or.inl ((ai_in1 170 rfl rfl))⟩
set_option maxRecDepth 20000 in
theorem ffX2_15 : ai_FF RX2 15 2 1 := ⟨RX2, TX2, 13, kX2, by decide, rfl, rfl, (ai_in1 170 rfl rfl)⟩
set_option maxRecDepth 20000 in
theorem fX2_19 : ai_F RX2 19 2 2 true := ⟨RX2, TX2, 13, kX2, by decide, rfl, rfl, Or.inl ((ai_in1 171 rfl rfl))⟩
set_option maxRecDepth 20000 in
theorem ffX2_19 : ai_FF RX2 19 2 2 := ⟨RX2, TX2, 13, kX2, by decide, rfl, rfl, (ai_in1 171 rfl rfl)⟩
set_option maxRecDepth 20000 in
theorem fX2_22 : ai_F RX2 22 2 3 true := ⟨RX2, TX2, 13, kX2, by decide, rfl, rfl, Or.inl ((ai_in1 172 rfl rfl))⟩
set_option maxRecDepth 20000 in
theorem ffX2_22 : ai_FF RX2 22 2 3 := ⟨RX2, TX2, 13, kX2, by decide, rfl, rfl, (ai_in1 172 rfl rfl)⟩
set_option maxRecDepth 20000 in
theorem fX4_39 : ai_F RX4 39 2 3 true := ⟨RX2, TX2, 13, kX2, by decide, rfl, rfl, Or.inr ⟨"EachLater", (ai_inN1 173 rfl rfl)⟩⟩
set_option maxRecDepth 20000 in
theorem fX2_25 : ai_F RX2 25 2 4 true := ⟨RX2, TX2, 13, kX2, by decide, rfl, rfl, Or.inl ((ai_in1 174 rfl rfl))⟩
set_option maxRecDepth 20000 in
theorem ffX2_25 : ai_FF RX2 25 2 4 := ⟨RX2, TX2, 13, kX2, by decide, rfl, rfl, (ai_in1 174 rfl rfl)⟩
set_option maxRecDepth 20000 in
theorem fX11_361 : ai_F RX11 361 2 4 true := ⟨RX2, TX2, 13, kX2, by decide, rfl, rfl, Or.inr ⟨"EachLater", (ai_inN1 175 rfl rfl)⟩⟩
set_option maxRecDepth 20000 in
theorem fX2_28 : ai_F RX2 28 2 5 true := ⟨RX2, TX2, 13, kX2, by decide, rfl, rfl, Or.inl ((ai_in1 176 rfl rfl))⟩
set_option maxRecDepth 20000 in
theorem ffX2_28 : ai_FF RX2 28 2 5 := ⟨RX2, TX2, 13, kX2, by decide, rfl, rfl, (ai_in1 176 rfl rfl)⟩
set_option maxRecDepth 20000 in
theorem fX11_364 : ai_F RX11 364 2 5 true := ⟨RX2, TX2, 13, kX2, by decide, rfl, rfl, Or.inr ⟨"EachLater", (ai_inN1 177 rfl rfl)⟩⟩
set_option maxRecDepth 20000 in
theorem fX2_31 : ai_F RX2 31 2 6 true := ⟨RX2, TX2, 13, kX2, by decide, rfl, rfl, Or.inl ((ai_in1 178 rfl rfl))⟩
set_option maxRecDepth 20000 in
theorem ffX2_31 : ai_FF RX2 31 2 6 := ⟨RX2, TX2, 13, kX2, by decide, rfl, rfl, (ai_in1 178 rfl rfl)⟩
set_option maxRecDepth 20000 in
theorem fX11_367 : ai_F RX11 367 2 6 true := ⟨RX2, TX2, 13, kX2, by decide, rfl, rfl, Or.inr ⟨"EachLater", (ai_inN1 179 rfl rfl)⟩⟩
set_option maxRecDepth 20000 in
theorem fX2_34 : ai_F RX2 34 2 7 true := ⟨RX2, TX2, 13, kX2, by decide, rfl, rfl, Or.inl ((ai_in1 180 rfl rfl))⟩
set_option maxRecDepth 20000 in
theorem ffX2_34 : ai_FF RX2 34 2 7 := ⟨RX2, TX2, 13, kX2, by decide, rfl, rfl, (ai_in1 180 rfl rfl)⟩
set_option maxRecDepth 20000 in
theorem fX4_46 : ai_F RX4 46 2 7 true := ⟨RX2, TX2, 13, kX2, by decide, rfl, rfl, Or.inr ⟨"EachLater", (ai_inN1 181 rfl rfl)⟩⟩
set_option maxRecDepth 20000 in
theorem fX11_370 : ai_F RX11 370 2 7 true := ⟨RX2, TX2, 13, kX2, by decide, rfl, rfl, Or.inr ⟨"EachLater", (ai_inN1 182 rfl rfl)⟩⟩
set_option maxRecDepth 20000 in
theorem fX2_37 : ai_F RX2 37 2 8 true := ⟨RX2, TX2, 13, kX2, by decide, rfl, rfl, Or.inl ((ai_in1 183 rfl rfl))⟩
set_option maxRecDepth 20000 in
theorem ffX2_37 : ai_FF RX2 37 2 8 := ⟨RX2, TX2, 13, kX2, by decide, rfl, rfl, (ai_in1 183 rfl rfl)⟩
set_option maxRecDepth 20000 in
theorem fX2_40 : ai_F RX2 40 2 9 true := ⟨RX2, TX2, 13, kX2, by decide, rfl, rfl, Or.inl ((ai_in1 184 rfl rfl))⟩
set_option maxRecDepth 20000 in
theorem ffX2_40 : ai_FF RX2 40 2 9 := ⟨RX2, TX2, 13, kX2, by decide, rfl, rfl, (ai_in1 184 rfl rfl)⟩
set_option maxRecDepth 20000 in
theorem fX2_43 : ai_F RX2 43 2 10 true := ⟨RX2, TX2, 13, kX2, by decide, rfl, rfl, Or.inl ((ai_in1 185 rfl rfl))⟩
set_option maxRecDepth 20000 in
theorem ffX2_43 : ai_FF RX2 43 2 10 := ⟨RX2, TX2, 13, kX2, by decide, rfl, rfl, (ai_in1 185 rfl rfl)⟩
set_option maxRecDepth 20000 in
theorem fX2_46 : ai_F RX2 46 2 11 true := ⟨RX2, TX2, 13, kX2, by decide, rfl, rfl, Or.inl ((ai_in1 186 rfl rfl))⟩
set_option maxRecDepth 20000 in
theorem ffX2_46 : ai_FF RX2 46 2 11 := ⟨RX2, TX2, 13, kX2, by decide, rfl, rfl, (ai_in1 186 rfl rfl)⟩
set_option maxRecDepth 20000 in
theorem fX2_50 : ai_F RX2 50 2 12 true := ⟨RX2, TX2, 13, kX2, by decide, rfl, rfl, Or.inl ((ai_in1 187 rfl rfl))⟩
set_option maxRecDepth 20000 in
theorem ffX2_50 : ai_FF RX2 50 2 12 := ⟨RX2, TX2, 13, kX2, by decide, rfl, rfl, (ai_in1 187 rfl rfl)⟩
set_option maxRecDepth 20000 in
theorem fX10_51 : ai_F RX10 51 2 12 true := ⟨RX2, TX2, 13, kX2, by decide, rfl, rfl, Or.inr ⟨"EachLater", (ai_inN1 188 rfl rfl)⟩⟩
set_option maxRecDepth 20000 in
theorem fX9_7 : ai_F RX9 7 9 0 false := ⟨RX9, TX9, 4, kX9, by decide, rfl, rfl, Or.inl ((ai_in1 229 rfl rfl))⟩
set_option maxRecDepth 20000 in
theorem fX4_61 : ai_F RX4 61 9 0 false := ⟨RX9, TX9, 4, kX9, by decide, rfl, rfl, Or.inr ⟨"EachLater", (ai_inN1 230 rfl rfl)⟩⟩
set_option maxRecDepth 20000 in
theorem fX11_150 : ai_F RX11 150 9 0 false := ⟨RX9, TX9, 4, kX9, by decide, rfl, rfl, Or.inr ⟨"EachLater", (ai_inN1 231 rfl rfl)⟩⟩
set_option maxRecDepth 20000 in
theorem fX9_13 : ai_F RX9 13 9 1 false := ⟨RX9, TX9, 4, kX9, by decide, rfl, rfl, Or.inl ((ai_in1 232 rfl rfl))⟩
set_option maxRecDepth 20000 in
theorem fX11_153 : ai_F RX11 153 9 1 false := ⟨RX9, TX9, 4, kX9, by decide, rfl, rfl, Or.inr ⟨"EachLater", (ai_inN1 233 rfl rfl)⟩⟩
set_option maxRecDepth 20000 in
theorem fX9_17 : ai_F RX9 17 9 2 false := ⟨RX9, TX9, 4, kX9, by decide, rfl, rfl, Or.inl ((ai_in1 234 rfl rfl))⟩
set_option maxRecDepth 20000 in
theorem fX9_20 : ai_F RX9 20 9 3 false := ⟨RX9, TX9, 4, kX9, by decide, rfl, rfl, Or.inl ((ai_in1 235 rfl rfl))⟩
set_option maxRecDepth 20000 in
theorem fX4_11 : ai_F RX4 11 4 0 true := ⟨RX4, TX4, 2, kX4, by decide, rfl, rfl, Or.inl ((ai_in2 5 rfl rfl))⟩
set_option maxRecDepth 20000 in
theorem ffX4_11 : ai_FF RX4 11 4 0 := ⟨RX4, TX4, 2, kX4, by decide, rfl, rfl, (ai_in2 5 rfl rfl)⟩
set_option maxRecDepth 20000 in
theorem fX4_18 : ai_F RX4 18 4 1 true := ⟨RX4, TX4, 2, kX4, by decide, rfl, rfl, Or.inl ((ai_in2 6 rfl rfl))⟩
set_option maxRecDepth 20000 in
theorem ffX4_18 : ai_FF RX4 18 4 1 := ⟨RX4, TX4, 2, kX4, by decide, rfl, rfl, (ai_in2 6 rfl rfl)⟩
set_option maxRecDepth 20000 in
theorem fX6_9 : ai_F RX6 9 6 0 true := ⟨RX6, TX6, 3, kX6, by decide, rfl, rfl, Or.inl ((ai_in2 18 rfl rfl))⟩
set_option maxRecDepth 20000 in
theorem ffX6_9 : ai_FF RX6 9 6 0 := ⟨RX6, TX6, 3, kX6, by decide, rfl, rfl, (ai_in2 18 rfl rfl)⟩
set_option maxRecDepth 20000 in
theorem fX6_15 : ai_F RX6 15 6 1 true := ⟨RX6, TX6, 3, kX6, by decide, rfl, rfl, Or.inl ((ai_in2 19 rfl rfl))⟩
set_option maxRecDepth 20000 in
theorem ffX6_15 : ai_FF RX6 15 6 1 := ⟨RX6, TX6, 3, kX6, by decide, rfl, rfl, (ai_in2 19 rfl rfl)⟩
set_option maxRecDepth 20000 in
theorem fX6_19 : ai_F RX6 19 6 2 true := ⟨RX6, TX6, 3, kX6, by decide, rfl, rfl, Or.inl ((ai_in2 20 rfl rfl))⟩
set_option maxRecDepth 20000 in
theorem ffX6_19 : ai_FF RX6 19 6 2 := ⟨RX6, TX6, 3, kX6, by decide, rfl, rfl, (ai_in2 20 rfl rfl)⟩
set_option maxRecDepth 20000 in
theorem fX0_9 : ai_F RX0 9 0 0 false := ⟨RX0, TX0, 3, kX0, by decide, rfl, rfl, Or.inl ((ai_in2 34 rfl rfl))⟩
set_option maxRecDepth 20000 in
theorem fX0_15 : ai_F RX0 15 0 1 true := ⟨RX0, TX0, 3, kX0, by decide, rfl, rfl, Or.inl ((ai_in2 35 rfl rfl))⟩
set_option maxRecDepth 20000 in
theorem ffX0_15 : ai_FF RX0 15 0 1 := ⟨RX0, TX0, 3, kX0, by decide, rfl, rfl, (ai_in2 35 rfl rfl)⟩
set_option maxRecDepth 20000 in
theorem fX0_19 : ai_F RX0 19 0 2 true := ⟨RX0, TX0, 3, kX0, by decide, rfl, rfl, Or.inl ((ai_in2 36 rfl rfl))⟩
set_option maxRecDepth 20000 in
theorem ffX0_19 : ai_FF RX0 19 0 2 := ⟨RX0, TX0, 3, kX0, by decide, rfl, rfl, (ai_in2 36 rfl rfl)⟩
set_option maxRecDepth 20000 in
theorem fX10_9 : ai_F RX10 9 10 0 false := ⟨RX10, TX10, 9, kX10, by decide, rfl, rfl, Or.inl ((ai_in2 52 rfl rfl))⟩
set_option maxRecDepth 20000 in
theorem fX10_15 : ai_F RX10 15 10 1 false := ⟨RX10, TX10, 9, kX10, by decide, rfl, rfl, Or.inl ((ai_in2 53 rfl rfl))⟩
set_option maxRecDepth 20000 in
theorem fX10_19 : ai_F RX10 19 10 2 false := ⟨RX10, TX10, 9, kX10, by decide, rfl, rfl, Or.inl ((ai_in2 54 rfl rfl))⟩
set_option maxRecDepth 20000 in
theorem fX10_22 : ai_F RX10 22 10 3 false := ⟨RX10, TX10, 9, kX10, by decide, rfl, rfl, Or.inl ((ai_in2 55 rfl rfl))⟩
set_option maxRecDepth 20000 in
theorem fX10_25 : ai_F RX10 25 10 4 false := ⟨RX10, TX10, 9, kX10, by decide, rfl, rfl, Or.inl ((ai_in2 56 rfl rfl))⟩
set_option maxRecDepth 20000 in
theorem fX10_29 : ai_F RX10 29 10 5 true := ⟨RX10, TX10, 9, kX10, by decide, rfl, rfl, Or.inl ((ai_in2 57 rfl rfl))⟩
set_option maxRecDepth 20000 in
theorem ffX10_29 : ai_FF RX10 29 10 5 := ⟨RX10, TX10, 9, kX10, by decide, rfl, rfl, (ai_in2 57 rfl rfl)⟩
set_option maxRecDepth 20000 in
theorem fX10_33 : ai_F RX10 33 10 6 true := ⟨RX10, TX10, 9, kX10, by decide, rfl, rfl, Or.inl ((ai_in2 58 rfl rfl))⟩
set_option maxRecDepth 20000 in
theorem ffX10_33 : ai_FF RX10 33 10 6 := ⟨RX10, TX10, 9, kX10, by decide, rfl, rfl, (ai_in2 58 rfl rfl)⟩
set_option maxRecDepth 20000 in
theorem fX10_36 : ai_F RX10 36 10 7 true := ⟨RX10, TX10, 9, kX10, by decide, rfl, rfl, Or.inl ((ai_in2 59 rfl rfl))⟩
set_option maxRecDepth 20000 in
theorem ffX10_36 : ai_FF RX10 36 10 7 := ⟨RX10, TX10, 9, kX10, by decide, rfl, rfl, (ai_in2 59 rfl rfl)⟩
set_option maxRecDepth 20000 in
theorem fX10_43 : ai_F RX10 43 10 8 true := ⟨RX10, TX10, 9, kX10, by decide, rfl, rfl, Or.inl ((ai_in2 60 rfl rfl))⟩
set_option maxRecDepth 20000 in
theorem ffX10_43 : ai_FF RX10 43 10 8 := ⟨RX10, TX10, 9, kX10, by decide, rfl, rfl, (ai_in2 60 rfl rfl)⟩
set_option maxRecDepth 20000 in
theorem fX11_10 : ai_F RX11 10 11 0 true := ⟨RX11, TX11, 15, kX11, by decide, rfl, rfl, Or.inl ((ai_in2 82 rfl rfl))⟩
set_option maxRecDepth 20000 in
theorem ffX11_10 : ai_FF RX11 10 11 0 := ⟨RX11, TX11, 15, kX11, by decide, rfl, rfl, (ai_in2 82 rfl rfl)⟩
set_option maxRecDepth 20000 in
theorem fX11_16 : ai_F RX11 16 11 1 true := ⟨RX11, TX11, 15, kX11, by decide, rfl, rfl, Or.inl ((ai_in2 83 rfl rfl))⟩
set_option maxRecDepth 20000 in
theorem ffX11_16 : ai_FF RX11 16 11 1 := ⟨RX11, TX11, 15, kX11, by decide, rfl, rfl, (ai_in2 83 rfl rfl)⟩
set_option maxRecDepth 20000 in
theorem fX11_20 : ai_F RX11 20 11 2 true := ⟨RX11, TX11, 15, kX11, by decide, rfl, rfl, Or.inl ((ai_in2 84 rfl rfl))⟩
set_option maxRecDepth 20000 in
theorem ffX11_20 : ai_FF RX11 20 11 2 := ⟨RX11, TX11, 15, kX11, by decide, rfl, rfl, (ai_in2 84 rfl rfl)⟩
set_option maxRecDepth 20000 in
theorem fX11_24 : ai_F RX11 24 11 3 false := ⟨RX11, TX11, 15, kX11, by decide, rfl, rfl, Or.inl ((ai_in2 85 rfl rfl))⟩
set_option maxRecDepth 20000 in
theorem fX11_30 : ai_F RX11 30 11 4 true := ⟨RX11, TX11, 15, kX11, by decide, rfl, rfl, Or.inl ((ai_in2 86 rfl rfl))⟩
set_option maxRecDepth 20000 in
theorem ffX11_30 : ai_FF RX11 30 11 4 := ⟨RX11, TX11, 15, kX11, by decide, rfl, rfl, (ai_in2 86 rfl rfl)⟩
set_option maxRecDepth 20000 in
theorem fX11_34 : ai_F RX11 34 11 5 false := ⟨RX11, TX11, 15, kX11, by decide, rfl, rfl, Or.inl ((ai_in2 87 rfl rfl))⟩
set_option maxRecDepth 20000 in
theorem fX11_37 : ai_F RX11 37 11 6 true := ⟨RX11, TX11, 15, kX11, by decide, rfl, rfl, Or.inl ((ai_in2 88 rfl rfl))⟩
set_option maxRecDepth 20000 in
theorem ffX11_37 : ai_FF RX11 37 11 6 := ⟨RX11, TX11, 15, kX11, by decide, rfl, rfl, (ai_in2 88 rfl rfl)⟩
set_option maxRecDepth 20000 in
theorem fX11_44 : ai_F RX11 44 11 7 true := ⟨RX11, TX11, 15, kX11, by decide, rfl, rfl, Or.inl ((ai_in2 89 rfl rfl))⟩
set_option maxRecDepth 20000 in
theorem ffX11_44 : ai_FF RX11 44 11 7 := ⟨RX11, TX11, 15, kX11, by decide, rfl, rfl, (ai_in2 89 rfl rfl)⟩
set_option maxRecDepth 20000 in
theorem fX11_51 : ai_F RX11 51 11 8 true := ⟨RX11, TX11, 15, kX11, by decide, rfl, rfl, Or.inl ((ai_in2 90 rfl rfl))⟩
set_option maxRecDepth 20000 in
theorem ffX11_51 : ai_FF RX11 51 11 8 := ⟨RX11, TX11, 15, kX11, by decide, rfl, rfl, (ai_in2 90 rfl rfl)⟩
set_option maxRecDepth 20000 in
theorem fX11_58 : ai_F RX11 58 11 9 true := ⟨RX11, TX11, 15, kX11, by decide, rfl, rfl, Or.inl ((ai_in2 91 rfl rfl))⟩
set_option maxRecDepth 20000 in
theorem ffX11_58 : ai_FF RX11 58 11 9 := ⟨RX11, TX11, 15, kX11, by decide, rfl, rfl, (ai_in2 91 rfl rfl)⟩
set_option maxRecDepth 20000 in
theorem fX11_65 : ai_F RX11 65 11 10 true := ⟨RX11, TX11, 15, kX11, by decide, rfl, rfl, Or.inl ((ai_in2 92 rfl rfl))⟩
set_option maxRecDepth 20000 in
theorem ffX11_65 : ai_FF RX11 65 11 10 := ⟨RX11, TX11, 15, kX11, by decide, rfl, rfl, (ai_in2 92 rfl rfl)⟩
set_option maxRecDepth 20000 in
theorem fX11_72 : ai_F RX11 72 11 11 true := ⟨RX11, TX11, 15, kX11, by decide, rfl, rfl, Or.inl ((ai_in2 93 rfl rfl))⟩
set_option maxRecDepth 20000 in
theorem ffX11_72 : ai_FF RX11 72 11 11 := ⟨RX11, TX11, 15, kX11, by decide, rfl, rfl, (ai_in2 93 rfl rfl)⟩
set_option maxRecDepth 20000 in
theorem fX11_79 : ai_F RX11 79 11 12 true := ⟨RX11, TX11, 15, kX11, by decide, rfl, rfl, Or.inl ((ai_in2 94 rfl rfl))⟩
set_option maxRecDepth 20000 in
theorem ffX11_79 : ai_FF RX11 79 11 12 := ⟨RX11, TX11, 15, kX11, by decide, rfl, rfl, (ai_in2 94 rfl rfl)⟩
set_option maxRecDepth 20000 in
theorem fX11_86 : ai_F RX11 86 11 13 true := ⟨RX11, TX11, 15, kX11, by decide, rfl, rfl, Or.inl ((ai_in2 95 rfl rfl))⟩
set_option maxRecDepth 20000 in
theorem ffX11_86 : ai_FF RX11 86 11 13 := ⟨RX11, TX11, 15, kX11, by decide, rfl, rfl, (ai_in2 95 rfl rfl)⟩
set_option maxRecDepth 20000 in
theorem fX11_93 : ai_F RX11 93 11 14 true := ⟨RX11, TX11, 15, kX11, by decide, rfl, rfl, Or.inl ((ai_in2 96 rfl rfl))⟩
set_option maxRecDepth 20000 in
theorem ffX11_93 : ai_FF RX11 93 11 14 := ⟨RX11, TX11, 15, kX11, by decide, rfl, rfl, (ai_in2 96 rfl rfl)⟩
set_option maxRecDepth 20000 in
theorem fX3_16 : ai_F RX3 16 3 0 true := ⟨RX3, TX3, 1, kX3, by decide, rfl, rfl, Or.inl ((ai_in3 213 rfl rfl))⟩
set_option maxRecDepth 20000 in
theorem ffX3_16 : ai_FF RX3 16 3 0 := ⟨RX3, TX3, 1, kX3, by decide, rfl, rfl, (ai_in3 213 rfl rfl)⟩
set_option maxRecDepth 20000 in
theorem fX7_19 : ai_F RX7 19 3 0 true := ⟨RX3, TX3, 1, kX3, by decide, rfl, rfl, Or.inr ⟨"EachLater", (ai_inN3 214 rfl rfl)⟩⟩
set_option maxRecDepth 20000 in
theorem fX12_185 : ai_F RX12 185 12 1 false := ⟨RX12, TX12, 73, kX12, by decide, rfl, rfl, Or.inl ((ai_in5 211 rfl rfl))⟩
set_option maxRecDepth 20000 in
theorem fX12_188 : ai_F RX12 188 12 2 false := ⟨RX12, TX12, 73, kX12, by decide, rfl, rfl, Or.inl ((ai_in5 212 rfl rfl))⟩
set_option maxRecDepth 20000 in
theorem fX12_191 : ai_F RX12 191 12 3 false := ⟨RX12, TX12, 73, kX12, by decide, rfl, rfl, Or.inl ((ai_in5 213 rfl rfl))⟩
set_option maxRecDepth 20000 in
theorem fX12_194 : ai_F RX12 194 12 4 false := ⟨RX12, TX12, 73, kX12, by decide, rfl, rfl, Or.inl ((ai_in5 214 rfl rfl))⟩
set_option maxRecDepth 20000 in
theorem fX12_197 : ai_F RX12 197 12 5 false := ⟨RX12, TX12, 73, kX12, by decide, rfl, rfl, Or.inl ((ai_in5 215 rfl rfl))⟩
set_option maxRecDepth 20000 in
theorem fX12_9 : ai_F RX12 9 12 6 true := ⟨RX12, TX12, 73, kX12, by decide, rfl, rfl, Or.inl ((ai_in5 216 rfl rfl))⟩
set_option maxRecDepth 20000 in
theorem ffX12_9 : ai_FF RX12 9 12 6 := ⟨RX12, TX12, 73, kX12, by decide, rfl, rfl, (ai_in5 216 rfl rfl)⟩
set_option maxRecDepth 20000 in
theorem fX12_13 : ai_F RX12 13 12 7 true := ⟨RX12, TX12, 73, kX12, by decide, rfl, rfl, Or.inl ((ai_in5 217 rfl rfl))⟩
set_option maxRecDepth 20000 in
theorem ffX12_13 : ai_FF RX12 13 12 7 := ⟨RX12, TX12, 73, kX12, by decide, rfl, rfl, (ai_in5 217 rfl rfl)⟩
set_option maxRecDepth 20000 in
theorem fX12_16 : ai_F RX12 16 12 8 true := ⟨RX12, TX12, 73, kX12, by decide, rfl, rfl, Or.inl ((ai_in5 218 rfl rfl))⟩
set_option maxRecDepth 20000 in
theorem ffX12_16 : ai_FF RX12 16 12 8 := ⟨RX12, TX12, 73, kX12, by decide, rfl, rfl, (ai_in5 218 rfl rfl)⟩
set_option maxRecDepth 20000 in
theorem fX12_19 : ai_F RX12 19 12 9 true := ⟨RX12, TX12, 73, kX12, by decide, rfl, rfl, Or.inl ((ai_in5 219 rfl rfl))⟩
set_option maxRecDepth 20000 in
theorem ffX12_19 : ai_FF RX12 19 12 9 := ⟨RX12, TX12, 73, kX12, by decide, rfl, rfl, (ai_in5 219 rfl rfl)⟩
set_option maxRecDepth 20000 in
theorem fX12_22 : ai_F RX12 22 12 10 true := ⟨RX12, TX12, 73, kX12, by decide, rfl, rfl, Or.inl ((ai_in5 220 rfl rfl))⟩
set_option maxRecDepth 20000 in
theorem ffX12_22 : ai_FF RX12 22 12 10 := ⟨RX12, TX12, 73, kX12, by decide, rfl, rfl, (ai_in5 220 rfl rfl)⟩
set_option maxRecDepth 20000 in
theorem fX12_25 : ai_F RX12 25 12 11 true := ⟨RX12, TX12, 73, kX12, by decide, rfl, rfl, Or.inl ((ai_in5 221 rfl rfl))⟩
set_option maxRecDepth 20000 in
theorem ffX12_25 : ai_FF RX12 25 12 11 := ⟨RX12, TX12, 73, kX12, by decide, rfl, rfl, (ai_in5 221 rfl rfl)⟩
set_option maxRecDepth 20000 in
theorem fX12_28 : ai_F RX12 28 12 12 true := ⟨RX12, TX12, 73, kX12, by decide, rfl, rfl, Or.inl ((ai_in5 222 rfl rfl))⟩
set_option maxRecDepth 20000 in
theorem ffX12_28 : ai_FF RX12 28 12 12 := ⟨RX12, TX12, 73, kX12, by decide, rfl, rfl, (ai_in5 222 rfl rfl)⟩
set_option maxRecDepth 20000 in
theorem fX12_31 : ai_F RX12 31 12 13 true := ⟨RX12, TX12, 73, kX12, by decide, rfl, rfl, Or.inl ((ai_in5 223 rfl rfl))⟩
set_option maxRecDepth 20000 in
theorem ffX12_31 : ai_FF RX12 31 12 13 := ⟨RX12, TX12, 73, kX12, by decide, rfl, rfl, (ai_in5 223 rfl rfl)⟩
set_option maxRecDepth 20000 in
theorem fX12_34 : ai_F RX12 34 12 14 true := ⟨RX12, TX12, 73, kX12, by decide, rfl, rfl, Or.inl ((ai_in5 224 rfl rfl))⟩
set_option maxRecDepth 20000 in
theorem ffX12_34 : ai_FF RX12 34 12 14 := ⟨RX12, TX12, 73, kX12, by decide, rfl, rfl, (ai_in5 224 rfl rfl)⟩
set_option maxRecDepth 20000 in
theorem fX12_37 : ai_F RX12 37 12 15 true := ⟨RX12, TX12, 73, kX12, by decide, rfl, rfl, Or.inl ((ai_in5 225 rfl rfl))⟩
set_option maxRecDepth 20000 in
theorem ffX12_37 : ai_FF RX12 37 12 15 := ⟨RX12, TX12, 73, kX12, by decide, rfl, rfl, (ai_in5 225 rfl rfl)⟩
set_option maxRecDepth 20000 in
theorem fX12_40 : ai_F RX12 40 12 16 true := ⟨RX12, TX12, 73, kX12, by decide, rfl, rfl, Or.inl ((ai_in5 226 rfl rfl))⟩
set_option maxRecDepth 20000 in
theorem ffX12_40 : ai_FF RX12 40 12 16 := ⟨RX12, TX12, 73, kX12, by decide, rfl, rfl, (ai_in5 226 rfl rfl)⟩
set_option maxRecDepth 20000 in
theorem fX12_43 : ai_F RX12 43 12 17 true := ⟨RX12, TX12, 73, kX12, by decide, rfl, rfl, Or.inl ((ai_in5 227 rfl rfl))⟩
set_option maxRecDepth 20000 in
theorem ffX12_43 : ai_FF RX12 43 12 17 := ⟨RX12, TX12, 73, kX12, by decide, rfl, rfl, (ai_in5 227 rfl rfl)⟩
set_option maxRecDepth 20000 in
theorem fX12_46 : ai_F RX12 46 12 18 true := ⟨RX12, TX12, 73, kX12, by decide, rfl, rfl, Or.inl ((ai_in5 228 rfl rfl))⟩
set_option maxRecDepth 20000 in
theorem ffX12_46 : ai_FF RX12 46 12 18 := ⟨RX12, TX12, 73, kX12, by decide, rfl, rfl, (ai_in5 228 rfl rfl)⟩
set_option maxRecDepth 20000 in
theorem fX12_49 : ai_F RX12 49 12 19 true := ⟨RX12, TX12, 73, kX12, by decide, rfl, rfl, Or.inl ((ai_in5 229 rfl rfl))⟩
set_option maxRecDepth 20000 in
theorem ffX12_49 : ai_FF RX12 49 12 19 := ⟨RX12, TX12, 73, kX12, by decide, rfl, rfl, (ai_in5 229 rfl rfl)⟩
set_option maxRecDepth 20000 in
theorem fX12_52 : ai_F RX12 52 12 20 true := ⟨RX12, TX12, 73, kX12, by decide, rfl, rfl, Or.inl ((ai_in5 230 rfl rfl))⟩
set_option maxRecDepth 20000 in
theorem ffX12_52 : ai_FF RX12 52 12 20 := ⟨RX12, TX12, 73, kX12, by decide, rfl, rfl, (ai_in5 230 rfl rfl)⟩
set_option maxRecDepth 20000 in
theorem fX12_55 : ai_F RX12 55 12 21 true := ⟨RX12, TX12, 73, kX12, by decide, rfl, rfl, Or.inl ((ai_in5 231 rfl rfl))⟩
set_option maxRecDepth 20000 in
theorem ffX12_55 : ai_FF RX12 55 12 21 := ⟨RX12, TX12, 73, kX12, by decide, rfl, rfl, (ai_in5 231 rfl rfl)⟩
set_option maxRecDepth 20000 in
theorem fX12_241 : ai_F RX12 241 12 22 false := ⟨RX12, TX12, 73, kX12, by decide, rfl, rfl, Or.inl ((ai_in5 232 rfl rfl))⟩
set_option maxRecDepth 20000 in
theorem fX12_267 : ai_F RX12 267 12 23 false := ⟨RX12, TX12, 73, kX12, by decide, rfl, rfl, Or.inl ((ai_in5 233 rfl rfl))⟩
set_option maxRecDepth 20000 in
theorem fX12_264 : ai_F RX12 264 12 24 false := ⟨RX12, TX12, 73, kX12, by decide, rfl, rfl, Or.inl ((ai_in5 234 rfl rfl))⟩
set_option maxRecDepth 20000 in
theorem fX12_294 : ai_F RX12 294 12 25 false := ⟨RX12, TX12, 73, kX12, by decide, rfl, rfl, Or.inl ((ai_in5 235 rfl rfl))⟩
set_option maxRecDepth 20000 in
theorem fX12_297 : ai_F RX12 297 12 26 false := ⟨RX12, TX12, 73, kX12, by decide, rfl, rfl, Or.inl ((ai_in5 236 rfl rfl))⟩
set_option maxRecDepth 20000 in
theorem fX12_337 : ai_F RX12 337 12 27 false := ⟨RX12, TX12, 73, kX12, by decide, rfl, rfl, Or.inl ((ai_in5 237 rfl rfl))⟩
set_option maxRecDepth 20000 in
theorem fX12_300 : ai_F RX12 300 12 28 false := ⟨RX12, TX12, 73, kX12, by decide, rfl, rfl, Or.inl ((ai_in5 238 rfl rfl))⟩
set_option maxRecDepth 20000 in
theorem fX12_334 : ai_F RX12 334 12 29 false := ⟨RX12, TX12, 73, kX12, by decide, rfl, rfl, Or.inl ((ai_in5 239 rfl rfl))⟩
set_option maxRecDepth 20000 in
theorem fX12_58 : ai_F RX12 58 12 30 true := ⟨RX12, TX12, 73, kX12, by decide, rfl, rfl, Or.inl ((ai_in6 0 rfl rfl))⟩
set_option maxRecDepth 20000 in
theorem ffX12_58 : ai_FF RX12 58 12 30 := ⟨RX12, TX12, 73, kX12, by decide, rfl, rfl, (ai_in6 0 rfl rfl)⟩
set_option maxRecDepth 20000 in
theorem fX12_62 : ai_F RX12 62 12 31 true := ⟨RX12, TX12, 73, kX12, by decide, rfl, rfl, Or.inl ((ai_in6 1 rfl rfl))⟩
set_option maxRecDepth 20000 in
theorem ffX12_62 : ai_FF RX12 62 12 31 := ⟨RX12, TX12, 73, kX12, by decide, rfl, rfl, (ai_in6 1 rfl rfl)⟩
set_option maxRecDepth 20000 in
theorem fX12_65 : ai_F RX12 65 12 32 true := ⟨RX12, TX12, 73, kX12, by decide, rfl, rfl, Or.inl ((ai_in6 2 rfl rfl))⟩
set_option maxRecDepth 20000 in
theorem ffX12_65 : ai_FF RX12 65 12 32 := ⟨RX12, TX12, 73, kX12, by decide, rfl, rfl, (ai_in6 2 rfl rfl)⟩
set_option maxRecDepth 20000 in
theorem fX12_68 : ai_F RX12 68 12 33 true := ⟨RX12, TX12, 73, kX12, by decide, rfl, rfl, Or.inl ((ai_in6 3 rfl rfl))⟩
set_option maxRecDepth 20000 in
theorem ffX12_68 : ai_FF RX12 68 12 33 := ⟨RX12, TX12, 73, kX12, by decide, rfl, rfl, (ai_in6 3 rfl rfl)⟩
set_option maxRecDepth 20000 in
theorem fX12_71 : ai_F RX12 71 12 34 true := ⟨RX12, TX12, 73, kX12, by decide, rfl, rfl, Or.inl ((ai_in6 4 rfl rfl))⟩
set_option maxRecDepth 20000 in
theorem ffX12_71 : ai_FF RX12 71 12 34 := ⟨RX12, TX12, 73, kX12, by decide, rfl, rfl, (ai_in6 4 rfl rfl)⟩
set_option maxRecDepth 20000 in
theorem fX12_74 : ai_F RX12 74 12 35 true := ⟨RX12, TX12, 73, kX12, by decide, rfl, rfl, Or.inl ((ai_in6 5 rfl rfl))⟩
set_option maxRecDepth 20000 in
theorem ffX12_74 : ai_FF RX12 74 12 35 := ⟨RX12, TX12, 73, kX12, by decide, rfl, rfl, (ai_in6 5 rfl rfl)⟩
set_option maxRecDepth 20000 in
theorem fX12_77 : ai_F RX12 77 12 36 true := ⟨RX12, TX12, 73, kX12, by decide, rfl, rfl, Or.inl ((ai_in6 6 rfl rfl))⟩
set_option maxRecDepth 20000 in
theorem ffX12_77 : ai_FF RX12 77 12 36 := ⟨RX12, TX12, 73, kX12, by decide, rfl, rfl, (ai_in6 6 rfl rfl)⟩
set_option maxRecDepth 20000 in
theorem fX12_80 : ai_F RX12 80 12 37 true := ⟨RX12, TX12, 73, kX12, by decide, rfl, rfl, Or.inl ((ai_in6 7 rfl rfl))⟩
set_option maxRecDepth 20000 in
theorem ffX12_80 : ai_FF RX12 80 12 37 := ⟨RX12, TX12, 73, kX12, by decide, rfl, rfl, (ai_in6 7 rfl rfl)⟩
set_option maxRecDepth 20000 in
theorem fX12_83 : ai_F RX12 83 12 38 true := ⟨RX12, TX12, 73, kX12, by decide, rfl, rfl, Or.inl ((ai_in6 8 rfl rfl))⟩
set_option maxRecDepth 20000 in
theorem ffX12_83 : ai_FF RX12 83 12 38 := ⟨RX12, TX12, 73, kX12, by decide, rfl, rfl, (ai_in6 8 rfl rfl)⟩
set_option maxRecDepth 20000 in
theorem fX12_87 : ai_F RX12 87 12 39 true := ⟨RX12, TX12, 73, kX12, by decide, rfl, rfl, Or.inl ((ai_in6 9 rfl rfl))⟩
set_option maxRecDepth 20000 in
theorem ffX12_87 : ai_FF RX12 87 12 39 := ⟨RX12, TX12, 73, kX12, by decide, rfl, rfl, (ai_in6 9 rfl rfl)⟩
set_option maxRecDepth 20000 in
theorem fX12_398 : ai_F RX12 398 12 40 false := ⟨RX12, TX12, 73, kX12, by decide, rfl, rfl, Or.inl ((ai_in6 10 rfl rfl))⟩
set_option maxRecDepth 20000 in
theorem fX12_90 : ai_F RX12 90 12 41 true := ⟨RX12, TX12, 73, kX12, by decide, rfl, rfl, Or.inl ((ai_in6 11 rfl rfl))⟩
set_option maxRecDepth 20000 in
theorem ffX12_90 : ai_FF RX12 90 12 41 := ⟨RX12, TX12, 73, kX12, by decide, rfl, rfl, (ai_in6 11 rfl rfl)⟩
set_option maxRecDepth 20000 in
theorem fX12_93 : ai_F RX12 93 12 42 true := ⟨RX12, TX12, 73, kX12, by decide, rfl, rfl, Or.inl ((ai_in6 12 rfl rfl))⟩
set_option maxRecDepth 20000 in
theorem ffX12_93 : ai_FF RX12 93 12 42 := ⟨RX12, TX12, 73, kX12, by decide, rfl, rfl, (ai_in6 12 rfl rfl)⟩
set_option maxRecDepth 20000 in
theorem fX12_96 : ai_F RX12 96 12 43 true := ⟨RX12, TX12, 73, kX12, by decide, rfl, rfl, Or.inl ((ai_in6 13 rfl rfl))⟩
set_option maxRecDepth 20000 in
theorem ffX12_96 : ai_FF RX12 96 12 43 := ⟨RX12, TX12, 73, kX12, by decide, rfl, rfl, (ai_in6 13 rfl rfl)⟩
set_option maxRecDepth 20000 in
theorem fX12_99 : ai_F RX12 99 12 44 true := ⟨RX12, TX12, 73, kX12, by decide, rfl, rfl, Or.inl ((ai_in6 14 rfl rfl))⟩
set_option maxRecDepth 20000 in
theorem ffX12_99 : ai_FF RX12 99 12 44 := ⟨RX12, TX12, 73, kX12, by decide, rfl, rfl, (ai_in6 14 rfl rfl)⟩
set_option maxRecDepth 20000 in
theorem fX12_102 : ai_F RX12 102 12 45 true := ⟨RX12, TX12, 73, kX12, by decide, rfl, rfl, Or.inl ((ai_in6 15 rfl rfl))⟩
set_option maxRecDepth 20000 in
theorem ffX12_102 : ai_FF RX12 102 12 45 := ⟨RX12, TX12, 73, kX12, by decide, rfl, rfl, (ai_in6 15 rfl rfl)⟩
set_option maxRecDepth 20000 in
theorem fX12_105 : ai_F RX12 105 12 46 true := ⟨RX12, TX12, 73, kX12, by decide, rfl, rfl, Or.inl ((ai_in6 16 rfl rfl))⟩
set_option maxRecDepth 20000 in
theorem ffX12_105 : ai_FF RX12 105 12 46 := ⟨RX12, TX12, 73, kX12, by decide, rfl, rfl, (ai_in6 16 rfl rfl)⟩
set_option maxRecDepth 20000 in
theorem fX12_108 : ai_F RX12 108 12 47 true := ⟨RX12, TX12, 73, kX12, by decide, rfl, rfl, Or.inl ((ai_in6 17 rfl rfl))⟩
set_option maxRecDepth 20000 in
theorem ffX12_108 : ai_FF RX12 108 12 47 := ⟨RX12, TX12, 73, kX12, by decide, rfl, rfl, (ai_in6 17 rfl rfl)⟩
set_option maxRecDepth 20000 in
theorem fX12_111 : ai_F RX12 111 12 48 true := ⟨RX12, TX12, 73, kX12, by decide, rfl, rfl, Or.inl ((ai_in6 18 rfl rfl))⟩
set_option maxRecDepth 20000 in
theorem ffX12_111 : ai_FF RX12 111 12 48 := ⟨RX12, TX12, 73, kX12, by decide, rfl, rfl, (ai_in6 18 rfl rfl)⟩
set_option maxRecDepth 20000 in
theorem fX12_114 : ai_F RX12 114 12 49 true := ⟨RX12, TX12, 73, kX12, by decide, rfl, rfl, Or.inl ((ai_in6 19 rfl rfl))⟩
set_option maxRecDepth 20000 in
theorem ffX12_114 : ai_FF RX12 114 12 49 := ⟨RX12, TX12, 73, kX12, by decide, rfl, rfl, (ai_in6 19 rfl rfl)⟩
set_option maxRecDepth 20000 in
theorem fX12_117 : ai_F RX12 117 12 50 true := ⟨RX12, TX12, 73, kX12, by decide, rfl, rfl, Or.inl ((ai_in6 20 rfl rfl))⟩
set_option maxRecDepth 20000 in
theorem ffX12_117 : ai_FF RX12 117 12 50 := ⟨RX12, TX12, 73, kX12, by decide, rfl, rfl, (ai_in6 20 rfl rfl)⟩
set_option maxRecDepth 20000 in
theorem fX12_120 : ai_F RX12 120 12 51 true := ⟨RX12, TX12, 73, kX12, by decide, rfl, rfl, Or.inl ((ai_in6 21 rfl rfl))⟩
set_option maxRecDepth 20000 in
theorem ffX12_120 : ai_FF RX12 120 12 51 := ⟨RX12, TX12, 73, kX12, by decide, rfl, rfl, (ai_in6 21 rfl rfl)⟩
set_option maxRecDepth 20000 in
theorem fX12_123 : ai_F RX12 123 12 52 true := ⟨RX12, TX12, 73, kX12, by decide, rfl, rfl, Or.inl ((ai_in6 22 rfl rfl))⟩
set_option maxRecDepth 20000 in
theorem ffX12_123 : ai_FF RX12 123 12 52 := ⟨RX12, TX12, 73, kX12, by decide, rfl, rfl, (ai_in6 22 rfl rfl)⟩
set_option maxRecDepth 20000 in
theorem fX12_126 : ai_F RX12 126 12 53 true := ⟨RX12, TX12, 73, kX12, by decide, rfl, rfl, Or.inl ((ai_in6 23 rfl rfl))⟩
set_option maxRecDepth 20000 in
theorem ffX12_126 : ai_FF RX12 126 12 53 := ⟨RX12, TX12, 73, kX12, by decide, rfl, rfl, (ai_in6 23 rfl rfl)⟩
set_option maxRecDepth 20000 in
theorem fX12_129 : ai_F RX12 129 12 54 true := ⟨RX12, TX12, 73, kX12, by decide, rfl, rfl, Or.inl ((ai_in6 24 rfl rfl))⟩
set_option maxRecDepth 20000 in
theorem ffX12_129 : ai_FF RX12 129 12 54 := ⟨RX12, TX12, 73, kX12, by decide, rfl, rfl, (ai_in6 24 rfl rfl)⟩
set_option maxRecDepth 20000 in
theorem fX12_132 : ai_F RX12 132 12 55 true := ⟨RX12, TX12, 73, kX12, by decide, rfl, rfl, Or.inl ((ai_in6 25 rfl rfl))⟩
set_option maxRecDepth 20000 in
theorem ffX12_132 : ai_FF RX12 132 12 55 := ⟨RX12, TX12, 73, kX12, by decide, rfl, rfl, (ai_in6 25 rfl rfl)⟩
set_option maxRecDepth 20000 in
theorem fX12_135 : ai_F RX12 135 12 56 true := ⟨RX12, TX12, 73, kX12, by decide, rfl, rfl, Or.inl ((ai_in6 26 rfl rfl))⟩
set_option maxRecDepth 20000 in
theorem ffX12_135 : ai_FF RX12 135 12 56 := ⟨RX12, TX12, 73, kX12, by decide, rfl, rfl, (ai_in6 26 rfl rfl)⟩
set_option maxRecDepth 20000 in
theorem fX12_138 : ai_F RX12 138 12 57 true := ⟨RX12, TX12, 73, kX12, by decide, rfl, rfl, Or.inl ((ai_in6 27 rfl rfl))⟩
set_option maxRecDepth 20000 in
theorem ffX12_138 : ai_FF RX12 138 12 57 := ⟨RX12, TX12, 73, kX12, by decide, rfl, rfl, (ai_in6 27 rfl rfl)⟩
set_option maxRecDepth 20000 in
theorem fX12_141 : ai_F RX12 141 12 58 true := ⟨RX12, TX12, 73, kX12, by decide, rfl, rfl, Or.inl ((ai_in6 28 rfl rfl))⟩
set_option maxRecDepth 20000 in
theorem ffX12_141 : ai_FF RX12 141 12 58 := ⟨RX12, TX12, 73, kX12, by decide, rfl, rfl, (ai_in6 28 rfl rfl)⟩
set_option maxRecDepth 20000 in
theorem fX12_144 : ai_F RX12 144 12 59 true := ⟨RX12, TX12, 73, kX12, by decide, rfl, rfl, Or.inl ((ai_in6 29 rfl rfl))⟩
set_option maxRecDepth 20000 in
theorem ffX12_144 : ai_FF RX12 144 12 59 := ⟨RX12, TX12, 73, kX12, by decide, rfl, rfl, (ai_in6 29 rfl rfl)⟩
set_option maxRecDepth 20000 in
theorem fX12_468 : ai_F RX12 468 12 60 false := ⟨RX12, TX12, 73, kX12, by decide, rfl, rfl, Or.inl ((ai_in6 30 rfl rfl))⟩
set_option maxRecDepth 20000 in
theorem fX12_147 : ai_F RX12 147 12 61 true := ⟨RX12, TX12, 73, kX12, by decide, rfl, rfl, Or.inl ((ai_in6 31 rfl rfl))⟩
set_option maxRecDepth 20000 in
theorem ffX12_147 : ai_FF RX12 147 12 61 := ⟨RX12, TX12, 73, kX12, by decide, rfl, rfl, (ai_in6 31 rfl rfl)⟩
set_option maxRecDepth 20000 in
theorem fX12_150 : ai_F RX12 150 12 62 true := ⟨RX12, TX12, 73, kX12, by decide, rfl, rfl, Or.inl ((ai_in6 32 rfl rfl))⟩
set_option maxRecDepth 20000 in
theorem ffX12_150 : ai_FF RX12 150 12 62 := ⟨RX12, TX12, 73, kX12, by decide, rfl, rfl, (ai_in6 32 rfl rfl)⟩
set_option maxRecDepth 20000 in
theorem fX12_153 : ai_F RX12 153 12 63 true := ⟨RX12, TX12, 73, kX12, by decide, rfl, rfl, Or.inl ((ai_in6 33 rfl rfl))⟩
set_option maxRecDepth 20000 in
theorem ffX12_153 : ai_FF RX12 153 12 63 := ⟨RX12, TX12, 73, kX12, by decide, rfl, rfl, (ai_in6 33 rfl rfl)⟩
set_option maxRecDepth 20000 in
theorem fX12_156 : ai_F RX12 156 12 64 true := ⟨RX12, TX12, 73, kX12, by decide, rfl, rfl, Or.inl ((ai_in6 34 rfl rfl))⟩
set_option maxRecDepth 20000 in
theorem ffX12_156 : ai_FF RX12 156 12 64 := ⟨RX12, TX12, 73, kX12, by decide, rfl, rfl, (ai_in6 34 rfl rfl)⟩
set_option maxRecDepth 20000 in
theorem fX12_159 : ai_F RX12 159 12 65 true := ⟨RX12, TX12, 73, kX12, by decide, rfl, rfl, Or.inl ((ai_in6 35 rfl rfl))⟩
set_option maxRecDepth 20000 in
theorem ffX12_159 : ai_FF RX12 159 12 65 := ⟨RX12, TX12, 73, kX12, by decide, rfl, rfl, (ai_in6 35 rfl rfl)⟩
set_option maxRecDepth 20000 in
theorem fX12_162 : ai_F RX12 162 12 66 true := ⟨RX12, TX12, 73, kX12, by decide, rfl, rfl, Or.inl ((ai_in6 36 rfl rfl))⟩
set_option maxRecDepth 20000 in
theorem ffX12_162 : ai_FF RX12 162 12 66 := ⟨RX12, TX12, 73, kX12, by decide, rfl, rfl, (ai_in6 36 rfl rfl)⟩
set_option maxRecDepth 20000 in
theorem fX12_481 : ai_F RX12 481 12 67 false := ⟨RX12, TX12, 73, kX12, by decide, rfl, rfl, Or.inl ((ai_in6 37 rfl rfl))⟩
set_option maxRecDepth 20000 in
theorem fX12_166 : ai_F RX12 166 12 68 true := ⟨RX12, TX12, 73, kX12, by decide, rfl, rfl, Or.inl ((ai_in6 38 rfl rfl))⟩
set_option maxRecDepth 20000 in
theorem ffX12_166 : ai_FF RX12 166 12 68 := ⟨RX12, TX12, 73, kX12, by decide, rfl, rfl, (ai_in6 38 rfl rfl)⟩
set_option maxRecDepth 20000 in
theorem fX12_169 : ai_F RX12 169 12 69 true := ⟨RX12, TX12, 73, kX12, by decide, rfl, rfl, Or.inl ((ai_in6 39 rfl rfl))⟩
set_option maxRecDepth 20000 in
theorem ffX12_169 : ai_FF RX12 169 12 69 := ⟨RX12, TX12, 73, kX12, by decide, rfl, rfl, (ai_in6 39 rfl rfl)⟩
set_option maxRecDepth 20000 in
theorem fX12_172 : ai_F RX12 172 12 70 true := ⟨RX12, TX12, 73, kX12, by decide, rfl, rfl, Or.inl ((ai_in6 40 rfl rfl))⟩
set_option maxRecDepth 20000 in
theorem ffX12_172 : ai_FF RX12 172 12 70 := ⟨RX12, TX12, 73, kX12, by decide, rfl, rfl, (ai_in6 40 rfl rfl)⟩
set_option maxRecDepth 20000 in
theorem fX12_500 : ai_F RX12 500 12 71 false := ⟨RX12, TX12, 73, kX12, by decide, rfl, rfl, Or.inl ((ai_in6 41 rfl rfl))⟩
set_option maxRecDepth 20000 in
theorem fX12_496 : ai_F RX12 496 12 72 false := ⟨RX12, TX12, 73, kX12, by decide, rfl, rfl, Or.inl ((ai_in6 42 rfl rfl))⟩
set_option maxRecDepth 20000 in
theorem clL_7 : Cond.classLink RL 7 "EachLater" ∈ ai_T := (ai_in1 21 rfl rfl)
set_option maxRecDepth 20000 in
theorem clX11_7 : Cond.classLink RX11 7 "EachLater$Book" ∈ ai_T := (ai_in1 29 rfl rfl)
set_option maxRecDepth 20000 in
theorem clX1_15 : Cond.classLink RX1 15 "EachLater$Table" ∈ ai_T := (ai_in1 35 rfl rfl)
set_option maxRecDepth 20000 in
theorem ac_int : Cond.arrayClass (newarray.typeOf .int) ∈ ai_T := (ai_in1 57 rfl rfl)
set_option maxRecDepth 20000 in
theorem clX11_28 : Cond.classLink RX11 28 "EachLater$Law" ∈ ai_T := (ai_in1 85 rfl rfl)
set_option maxRecDepth 20000 in
theorem clX11_41 : Cond.classLink RX11 41 "EachLater$Reader" ∈ ai_T := (ai_in1 87 rfl rfl)
set_option maxRecDepth 20000 in
theorem cnX5_25 : Cond.constant RX5 25 (300008) ∈ ai_T := (ai_in1 93 rfl rfl)
set_option maxRecDepth 20000 in
theorem ac_long : Cond.arrayClass (newarray.typeOf .long) ∈ ai_T := (ai_in1 146 rfl rfl)
set_option maxRecDepth 20000 in
theorem clX11_48 : Cond.classLink RX11 48 "EachLater$Scale" ∈ ai_T := (ai_in1 147 rfl rfl)
set_option maxRecDepth 20000 in
theorem clX11_55 : Cond.classLink RX11 55 "EachLater$Sights" ∈ ai_T := (ai_in1 160 rfl rfl)
set_option maxRecDepth 20000 in
theorem clX11_62 : Cond.classLink RX11 62 "EachLater$Meetings" ∈ ai_T := (ai_in1 216 rfl rfl)
set_option maxRecDepth 20000 in
theorem clX4_9 : Cond.classLink RX4 9 "EachLater$Tally" ∈ ai_T := (ai_in1 222 rfl rfl)
set_option maxRecDepth 20000 in
theorem clX11_69 : Cond.classLink RX11 69 "EachLater$Ropes" ∈ ai_T := (ai_in2 12 rfl rfl)
set_option maxRecDepth 20000 in
theorem clX11_76 : Cond.classLink RX11 76 "EachLater$Bonds" ∈ ai_T := (ai_in2 28 rfl rfl)
set_option maxRecDepth 20000 in
theorem clX11_83 : Cond.classLink RX11 83 "EachLater$Worlds" ∈ ai_T := (ai_in2 44 rfl rfl)
set_option maxRecDepth 20000 in
theorem clX10_40 : Cond.classLink RX10 40 "EachLater$Tally" ∈ ai_T := (ai_in2 50 rfl rfl)
set_option maxRecDepth 20000 in
theorem clX11_90 : Cond.classLink RX11 90 "EachLater$Tally" ∈ ai_T := (ai_in2 80 rfl rfl)
set_option maxRecDepth 20000 in
theorem cnX11_145 : Cond.constant RX11 145 (-1000000000) ∈ ai_T := (ai_in2 186 rfl rfl)
set_option maxRecDepth 20000 in
theorem cnX5_90 : Cond.constant RX5 90 (300007) ∈ ai_T := (ai_in3 8 rfl rfl)
set_option maxRecDepth 20000 in
theorem cnX5_107 : Cond.constant RX5 107 (300000) ∈ ai_T := (ai_in3 17 rfl rfl)
set_option maxRecDepth 20000 in
theorem cnX5_122 : Cond.constant RX5 122 (300002) ∈ ai_T := (ai_in3 83 rfl rfl)
set_option maxRecDepth 20000 in
theorem cnX5_125 : Cond.constant RX5 125 (300003) ∈ ai_T := (ai_in3 85 rfl rfl)
set_option maxRecDepth 20000 in
theorem cnX5_128 : Cond.constant RX5 128 (200000) ∈ ai_T := (ai_in3 87 rfl rfl)
set_option maxRecDepth 20000 in
theorem cnX5_131 : Cond.constant RX5 131 (200001) ∈ ai_T := (ai_in3 89 rfl rfl)
set_option maxRecDepth 20000 in
theorem cnX5_134 : Cond.constant RX5 134 (200002) ∈ ai_T := (ai_in3 91 rfl rfl)
set_option maxRecDepth 20000 in
theorem cnX5_115 : Cond.constant RX5 115 (300001) ∈ ai_T := (ai_in3 109 rfl rfl)
set_option maxRecDepth 20000 in
theorem cnX5_174 : Cond.constant RX5 174 (300006) ∈ ai_T := (ai_in3 117 rfl rfl)
set_option maxRecDepth 20000 in
theorem cnX5_175 : Cond.constant RX5 175 (300004) ∈ ai_T := (ai_in3 118 rfl rfl)
set_option maxRecDepth 20000 in
theorem cnX5_176 : Cond.constant RX5 176 (300005) ∈ ai_T := (ai_in3 119 rfl rfl)
set_option maxRecDepth 20000 in
theorem cnX5_177 : Cond.constant RX5 177 (200008) ∈ ai_T := (ai_in3 120 rfl rfl)
set_option maxRecDepth 20000 in
theorem cnX5_178 : Cond.constant RX5 178 (200009) ∈ ai_T := (ai_in3 121 rfl rfl)
set_option maxRecDepth 20000 in
theorem cnX5_179 : Cond.constant RX5 179 (200010) ∈ ai_T := (ai_in3 122 rfl rfl)
set_option maxRecDepth 20000 in
theorem cnX5_180 : Cond.constant RX5 180 (200005) ∈ ai_T := (ai_in3 123 rfl rfl)
set_option maxRecDepth 20000 in
theorem cnX5_172 : Cond.constant RX5 172 (200004) ∈ ai_T := (ai_in3 124 rfl rfl)
set_option maxRecDepth 20000 in
theorem cnX5_181 : Cond.constant RX5 181 (200003) ∈ ai_T := (ai_in3 125 rfl rfl)
set_option maxRecDepth 20000 in
theorem cnX5_173 : Cond.constant RX5 173 (200006) ∈ ai_T := (ai_in3 126 rfl rfl)
set_option maxRecDepth 20000 in
theorem cnX5_182 : Cond.constant RX5 182 (200007) ∈ ai_T := (ai_in3 127 rfl rfl)
set_option maxRecDepth 20000 in
theorem cnX5_208 : Cond.constant RX5 208 (100000) ∈ ai_T := (ai_in3 144 rfl rfl)
set_option maxRecDepth 20000 in
theorem cnX5_231 : Cond.constant RX5 231 (200012) ∈ ai_T := (ai_in3 176 rfl rfl)
set_option maxRecDepth 20000 in
theorem cnX5_232 : Cond.constant RX5 232 (200011) ∈ ai_T := (ai_in3 177 rfl rfl)
set_option maxRecDepth 20000 in
theorem clX5_81 : Cond.classLink RX5 81 "EachLater$Law" ∈ ai_T := (ai_in3 202 rfl rfl)
set_option maxRecDepth 20000 in
theorem ac_byte : Cond.arrayClass (newarray.typeOf .byte) ∈ ai_T := (ai_in3 218 rfl rfl)
set_option maxRecDepth 20000 in
theorem cnX11_173 : Cond.constant RX11 173 (-1000000) ∈ ai_T := (ai_in3 227 rfl rfl)
set_option maxRecDepth 20000 in
theorem cnX7_25 : Cond.constant RX7 25 (200011) ∈ ai_T := (ai_in3 232 rfl rfl)
set_option maxRecDepth 20000 in
theorem cnX7_51 : Cond.constantLong RX7 51 (-999999) ∈ ai_T := (ai_in4 0 rfl rfl)
set_option maxRecDepth 20000 in
theorem cnX7_53 : Cond.constantLong RX7 53 (999999) ∈ ai_T := (ai_in4 1 rfl rfl)
set_option maxRecDepth 20000 in
theorem cnX7_34 : Cond.constant RX7 34 (200012) ∈ ai_T := (ai_in4 4 rfl rfl)
set_option maxRecDepth 20000 in
theorem cnX7_35 : Cond.constant RX7 35 (100000) ∈ ai_T := (ai_in4 5 rfl rfl)
set_option maxRecDepth 20000 in
theorem cnX7_40 : Cond.constant RX7 40 (200000) ∈ ai_T := (ai_in4 10 rfl rfl)
set_option maxRecDepth 20000 in
theorem cnX7_64 : Cond.constant RX7 64 (200002) ∈ ai_T := (ai_in4 34 rfl rfl)
set_option maxRecDepth 20000 in
theorem cnX11_182 : Cond.constant RX11 182 (-2000000000) ∈ ai_T := (ai_in4 53 rfl rfl)
set_option maxRecDepth 20000 in
theorem cnX2_99 : Cond.constantLong RX2 99 (1000) ∈ ai_T := (ai_in4 116 rfl rfl)
set_option maxRecDepth 20000 in
theorem cnX6_22 : Cond.constantLong RX6 22 (-1) ∈ ai_T := (ai_in4 148 rfl rfl)
set_option maxRecDepth 20000 in
theorem cnX6_50 : Cond.constantLong RX6 50 (32) ∈ ai_T := (ai_in4 167 rfl rfl)
set_option maxRecDepth 20000 in
theorem cnX9_35 : Cond.constantLong RX9 35 (1000) ∈ ai_T := (ai_in4 226 rfl rfl)
set_option maxRecDepth 20000 in
theorem cnX11_233 : Cond.constantLong RX11 233 (-1) ∈ ai_T := (ai_in4 231 rfl rfl)
set_option maxRecDepth 20000 in
theorem cnX11_346 : Cond.constantLong RX11 346 (1000) ∈ ai_T := (ai_in4 236 rfl rfl)
set_option maxRecDepth 20000 in
theorem cnX11_242 : Cond.constantLong RX11 242 (100) ∈ ai_T := (ai_in5 5 rfl rfl)
set_option maxRecDepth 20000 in
theorem cnJ6_265 : Cond.constant RJ6 265 (1431655765) ∈ ai_T := (ai_in5 21 rfl rfl)
set_option maxRecDepth 20000 in
theorem cnJ6_266 : Cond.constant RJ6 266 (858993459) ∈ ai_T := (ai_in5 22 rfl rfl)
set_option maxRecDepth 20000 in
theorem cnJ6_267 : Cond.constant RJ6 267 (252645135) ∈ ai_T := (ai_in5 23 rfl rfl)
set_option maxRecDepth 20000 in
theorem cnX2_132 : Cond.constantLong RX2 132 (-2) ∈ ai_T := (ai_in5 25 rfl rfl)
set_option maxRecDepth 20000 in
theorem cnX11_255 : Cond.constantLong RX11 255 (-2) ∈ ai_T := (ai_in5 30 rfl rfl)
set_option maxRecDepth 20000 in
theorem cnX10_72 : Cond.constantLong RX10 72 (1103515245) ∈ ai_T := (ai_in5 172 rfl rfl)
set_option maxRecDepth 20000 in
theorem cnX10_74 : Cond.constantLong RX10 74 (12345) ∈ ai_T := (ai_in5 173 rfl rfl)
set_option maxRecDepth 20000 in
theorem cnX10_76 : Cond.constantLong RX10 76 (2147483648) ∈ ai_T := (ai_in5 174 rfl rfl)
set_option maxRecDepth 20000 in
theorem cnX10_78 : Cond.constantLong RX10 78 (65536) ∈ ai_T := (ai_in5 175 rfl rfl)
set_option maxRecDepth 20000 in
theorem clL_10 : Cond.classLink RL 10 "EachLaterModel" ∈ ai_T := (ai_in5 205 rfl rfl)
set_option maxRecDepth 20000 in
theorem ac_boolean : Cond.arrayClass (newarray.typeOf .boolean) ∈ ai_T := (ai_in6 190 rfl rfl)
set_option maxRecDepth 20000 in
theorem cnX12_179 : Cond.constantLong RX12 179 (9999) ∈ ai_T := (ai_in6 195 rfl rfl)
set_option maxRecDepth 20000 in
theorem cnX12_202 : Cond.constantLong RX12 202 (-5000) ∈ ai_T := (ai_in6 203 rfl rfl)
set_option maxRecDepth 20000 in
theorem cnX12_204 : Cond.constantLong RX12 204 (9) ∈ ai_T := (ai_in6 208 rfl rfl)
set_option maxRecDepth 20000 in
theorem cnX12_206 : Cond.constantLong RX12 206 (99) ∈ ai_T := (ai_in6 209 rfl rfl)
set_option maxRecDepth 20000 in
theorem cnX12_208 : Cond.constantLong RX12 208 (3) ∈ ai_T := (ai_in6 214 rfl rfl)
set_option maxRecDepth 20000 in
theorem cnX12_200 : Cond.constantLong RX12 200 (4) ∈ ai_T := (ai_in6 227 rfl rfl)
set_option maxRecDepth 20000 in
theorem cnX12_233 : Cond.constant RX12 233 (-1000000000) ∈ ai_T := (ai_in7 10 rfl rfl)
set_option maxRecDepth 20000 in
theorem cnX12_274 : Cond.constantLong RX12 274 (48) ∈ ai_T := (ai_in7 78 rfl rfl)
set_option maxRecDepth 20000 in
theorem cnX12_276 : Cond.constantLong RX12 276 (57) ∈ ai_T := (ai_in7 79 rfl rfl)
set_option maxRecDepth 20000 in
theorem cnX12_311 : Cond.constant RX12 311 (99999) ∈ ai_T := (ai_in7 80 rfl rfl)
set_option maxRecDepth 20000 in
theorem cnX12_386 : Cond.constantLong RX12 386 (-999999) ∈ ai_T := (ai_in7 160 rfl rfl)
set_option maxRecDepth 20000 in
theorem cnX12_388 : Cond.constantLong RX12 388 (999999) ∈ ai_T := (ai_in7 161 rfl rfl)
set_option maxRecDepth 20000 in
theorem cnX12_397 : Cond.constant RX12 397 (-1000000) ∈ ai_T := (ai_in7 162 rfl rfl)
set_option maxRecDepth 20000 in
theorem cnX12_425 : Cond.constant RX12 425 (-2000000000) ∈ ai_T := (ai_in7 171 rfl rfl)
set_option maxRecDepth 20000 in
theorem cnX12_401 : Cond.constantLong RX12 401 (1000) ∈ ai_T := (ai_in7 187 rfl rfl)
set_option maxRecDepth 20000 in
theorem cnX12_441 : Cond.constantLong RX12 441 (2) ∈ ai_T := (ai_in7 207 rfl rfl)
set_option maxRecDepth 20000 in
theorem cnX12_446 : Cond.constantLong RX12 446 (-1) ∈ ai_T := (ai_in7 232 rfl rfl)
set_option maxRecDepth 20000 in
theorem cnX12_448 : Cond.constantLong RX12 448 (192) ∈ ai_T := (ai_in7 233 rfl rfl)
set_option maxRecDepth 20000 in
theorem cnX12_456 : Cond.constantLong RX12 456 (900) ∈ ai_T := (ai_in8 10 rfl rfl)
set_option maxRecDepth 20000 in
theorem cnX12_458 : Cond.constantLong RX12 458 (100) ∈ ai_T := (ai_in8 11 rfl rfl)
set_option maxRecDepth 20000 in
theorem cnX12_460 : Cond.constantLong RX12 460 (-2) ∈ ai_T := (ai_in8 20 rfl rfl)
set_option maxRecDepth 20000 in
theorem cnX12_477 : Cond.constantLong RX12 477 (999) ∈ ai_T := (ai_in8 57 rfl rfl)
set_option maxRecDepth 20000 in
theorem cnX12_479 : Cond.constantLong RX12 479 (50) ∈ ai_T := (ai_in8 74 rfl rfl)
set_option maxRecDepth 20000 in
theorem cnX12_488 : Cond.constantLong RX12 488 (1103515245) ∈ ai_T := (ai_in8 79 rfl rfl)
set_option maxRecDepth 20000 in
theorem cnX12_490 : Cond.constantLong RX12 490 (12345) ∈ ai_T := (ai_in8 80 rfl rfl)
set_option maxRecDepth 20000 in
theorem cnX12_492 : Cond.constantLong RX12 492 (2147483648) ∈ ai_T := (ai_in8 81 rfl rfl)
set_option maxRecDepth 20000 in
theorem cnX12_494 : Cond.constantLong RX12 494 (65536) ∈ ai_T := (ai_in8 82 rfl rfl)
set_option maxRecDepth 20000 in
theorem cp_na : Cond.native arraycopyName ∈ ai_T := (ai_in3 212 rfl rfl)
set_option maxRecDepth 20000 in
theorem cp_st : Cond.static arraycopyName ∈ ai_T := (ai_in3 211 rfl rfl)
set_option maxRecDepth 20000 in
theorem cp_in : Cond.initialized "java/lang/System" ∈ ai_T := (ai_in1 19 rfl rfl)
set_option maxRecDepth 20000 in
theorem ob_in : Cond.instanceMethod Lib.objectInit ∈ ai_T := (ai_in1 27 rfl rfl)
set_option maxRecDepth 20000 in
theorem ob_co : Cond.code Lib.objectInit ⟨#[0xb1]⟩ 1 none ∈ ai_T := (ai_in1 28 rfl rfl)
