theorem tw_3_115 : Cond.methodLink RX4 132 yX4_load ∈ lw_G := G_in (in_3 (List.mem_of_getElem? (i := 115) rfl)) rfl
theorem tw_2_132 : Cond.instanceMethod yX4_load ∈ lw_G := G_in (in_2 (List.mem_of_getElem? (i := 132) rfl)) rfl
theorem tw_2_133 : Cond.selects RX4 yX4_load yX4_load ∈ lw_G := G_in (in_2 (List.mem_of_getElem? (i := 133) rfl)) rfl
theorem tw_2_134 : Cond.code yX4_load cX4_load 2 none ∈ lw_G := G_in (in_2 (List.mem_of_getElem? (i := 134) rfl)) rfl
theorem tw_1_97 : Cond.methodLink RX2 9 yX1_value ∈ lw_G := G_in (in_1 (List.mem_of_getElem? (i := 97) rfl)) rfl
theorem tw_1_100 : Cond.methodLink RX2 15 yX1_kind ∈ lw_G := G_in (in_1 (List.mem_of_getElem? (i := 100) rfl)) rfl
theorem tw_1_96 : Cond.methodLink RX2 3 objectInit ∈ lw_G := G_in (in_1 (List.mem_of_getElem? (i := 96) rfl)) rfl
theorem tw_1_103 : Cond.fieldLink RX2 18 "ThesisDesk$Form" "codes" "[I" ∈ lw_G := G_in (in_1 (List.mem_of_getElem? (i := 103) rfl)) rfl
theorem tw_1_106 : Cond.fieldLink RX2 24 "ThesisDesk$Form" "whole" "Z" ∈ lw_G := G_in (in_1 (List.mem_of_getElem? (i := 106) rfl)) rfl
theorem tw_1_108 : Cond.fieldLink RX2 28 "ThesisDesk$Form" "loci" "I" ∈ lw_G := G_in (in_1 (List.mem_of_getElem? (i := 108) rfl)) rfl
theorem tw_2_39 : Cond.methodLink RX2 32 yX2_head ∈ lw_G := G_in (in_2 (List.mem_of_getElem? (i := 39) rfl)) rfl
theorem tw_2_40 : Cond.instanceMethod yX2_head ∈ lw_G := G_in (in_2 (List.mem_of_getElem? (i := 40) rfl)) rfl
theorem tw_2_41 : Cond.selects RX2 yX2_head yX2_head ∈ lw_G := G_in (in_2 (List.mem_of_getElem? (i := 41) rfl)) rfl
theorem tw_1_4 : Cond.initialized RX2 ∈ lw_G := G_in (in_1 (List.mem_of_getElem? (i := 4) rfl)) rfl
theorem tw_2_42 : Cond.code yX2_head cX2_head 1 (some .int) ∈ lw_G := G_in (in_2 (List.mem_of_getElem? (i := 42) rfl)) rfl
