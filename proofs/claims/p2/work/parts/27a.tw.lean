theorem tw_1_123 : Cond.fieldLink RX5 24 "ThesisDesk" "blocks" "[LThesisDesk$Block;" ∈ lw_G := G_in (in_1 (List.mem_of_getElem? (i := 123) rfl)) rfl
theorem tw_1_33 : Cond.fieldLink RX0 9 "ThesisDesk$Block" "kind" "I" ∈ lw_G := G_in (in_1 (List.mem_of_getElem? (i := 33) rfl)) rfl
theorem tw_1_35 : Cond.fieldLink RX0 15 "ThesisDesk$Block" "thesis" "LThesisDesk$Form;" ∈ lw_G := G_in (in_1 (List.mem_of_getElem? (i := 35) rfl)) rfl
theorem tw_1_37 : Cond.fieldLink RX0 19 "ThesisDesk$Block" "waits" "Z" ∈ lw_G := G_in (in_1 (List.mem_of_getElem? (i := 37) rfl)) rfl
theorem tw_1_39 : Cond.fieldLink RX0 23 "ThesisDesk$Block" "leftInCases" "Z" ∈ lw_G := G_in (in_1 (List.mem_of_getElem? (i := 39) rfl)) rfl
theorem tw_1_41 : Cond.fieldLink RX0 26 "ThesisDesk$Block" "latest" "LThesisDesk$Note;" ∈ lw_G := G_in (in_1 (List.mem_of_getElem? (i := 41) rfl)) rfl
