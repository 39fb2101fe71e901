theorem tw_3_66 : Cond.methodLink RX5 328 yX5_changeThesis ∈ lw_G := G_in (in_3 (List.mem_of_getElem? (i := 66) rfl)) rfl
theorem tw_3_68 : Cond.instanceMethod yX5_changeThesis ∈ lw_G := G_in (in_3 (List.mem_of_getElem? (i := 68) rfl)) rfl
theorem tw_s30 : Cond.selects RX5 yX5_changeThesis yX5_changeThesis ∈ lw_G := G_in (in_s (List.mem_of_getElem? (i := 30) rfl)) rfl
theorem tw_3_69 : Cond.code yX5_changeThesis cX5_changeThesis 7 (some .boolean) ∈ lw_G := G_in (in_3 (List.mem_of_getElem? (i := 69) rfl)) rfl
theorem tw_1_126 : Cond.fieldLink RX5 47 "ThesisDesk" "lastFits" "Z" ∈ lw_G := G_in (in_1 (List.mem_of_getElem? (i := 126) rfl)) rfl
theorem tw_3_39 : Cond.methodLink RX5 186 yX5_note ∈ lw_G := G_in (in_3 (List.mem_of_getElem? (i := 39) rfl)) rfl
theorem tw_3_41 : Cond.instanceMethod yX5_note ∈ lw_G := G_in (in_3 (List.mem_of_getElem? (i := 41) rfl)) rfl
theorem tw_s29 : Cond.selects RX5 yX5_note yX5_note ∈ lw_G := G_in (in_s (List.mem_of_getElem? (i := 29) rfl)) rfl
theorem tw_3_42 : Cond.code yX5_note cX5_note 5 none ∈ lw_G := G_in (in_3 (List.mem_of_getElem? (i := 42) rfl)) rfl
theorem tn_1_34 : Cond.fieldLinkNest RX5 162 "ThesisDesk$Block" "kind" "I" "ThesisDesk" ∈ lw_tbl := in_1 (List.mem_of_getElem? (i := 34) rfl)
