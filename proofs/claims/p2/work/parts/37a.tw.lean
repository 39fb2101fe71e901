theorem tw_3_179 : Cond.methodLink RX5 315 yX5_tellStep ∈ lw_G := G_in (in_3 (List.mem_of_getElem? (i := 179) rfl)) rfl
theorem tw_3_181 : Cond.instanceMethod yX5_tellStep ∈ lw_G := G_in (in_3 (List.mem_of_getElem? (i := 181) rfl)) rfl
theorem tw_s39 : Cond.selects RX5 yX5_tellStep yX5_tellStep ∈ lw_G := G_in (in_s (List.mem_of_getElem? (i := 39) rfl)) rfl
theorem tw_3_182 : Cond.code yX5_tellStep cX5_tellStep 2 none ∈ lw_G := G_in (in_3 (List.mem_of_getElem? (i := 182) rfl)) rfl
theorem tw_3_183 : Cond.methodLink RX5 196 yX0_isShown ∈ lw_G := G_in (in_3 (List.mem_of_getElem? (i := 183) rfl)) rfl
theorem tw_3_184 : Cond.instanceMethod yX0_isShown ∈ lw_G := G_in (in_3 (List.mem_of_getElem? (i := 184) rfl)) rfl
theorem tw_3_185 : Cond.selects RX0 yX0_isShown yX0_isShown ∈ lw_G := G_in (in_3 (List.mem_of_getElem? (i := 185) rfl)) rfl
theorem tw_3_186 : Cond.code yX0_isShown cX0_isShown 1 (some .boolean) ∈ lw_G := G_in (in_3 (List.mem_of_getElem? (i := 186) rfl)) rfl
theorem tw_3_188 : Cond.methodLink RX5 203 yX5_tellAround ∈ lw_G := G_in (in_3 (List.mem_of_getElem? (i := 188) rfl)) rfl
theorem tw_3_190 : Cond.instanceMethod yX5_tellAround ∈ lw_G := G_in (in_3 (List.mem_of_getElem? (i := 190) rfl)) rfl
theorem tw_s40 : Cond.selects RX5 yX5_tellAround yX5_tellAround ∈ lw_G := G_in (in_s (List.mem_of_getElem? (i := 40) rfl)) rfl
theorem tw_3_191 : Cond.code yX5_tellAround cX5_tellAround 3 none ∈ lw_G := G_in (in_3 (List.mem_of_getElem? (i := 191) rfl)) rfl
theorem tw_3_175 : Cond.methodLink RX5 192 yX5_endNow ∈ lw_G := G_in (in_3 (List.mem_of_getElem? (i := 175) rfl)) rfl
theorem tw_3_177 : Cond.instanceMethod yX5_endNow ∈ lw_G := G_in (in_3 (List.mem_of_getElem? (i := 177) rfl)) rfl
theorem tw_s38 : Cond.selects RX5 yX5_endNow yX5_endNow ∈ lw_G := G_in (in_s (List.mem_of_getElem? (i := 38) rfl)) rfl
theorem tw_3_178 : Cond.code yX5_endNow cX5_endNow 3 (some .int) ∈ lw_G := G_in (in_3 (List.mem_of_getElem? (i := 178) rfl)) rfl
theorem tn_3_50 : Cond.fieldLinkNest RX5 319 "ThesisDesk$Note" "kind" "I" "ThesisDesk" ∈ lw_tbl := in_3 (List.mem_of_getElem? (i := 50) rfl)
theorem tn_3_54 : Cond.fieldLinkNest RX5 211 "ThesisDesk$Note" "form" "LThesisDesk$Form;" "ThesisDesk" ∈ lw_tbl := in_3 (List.mem_of_getElem? (i := 54) rfl)
theorem tn_3_52 : Cond.fieldLinkNest RX5 320 "ThesisDesk$Note" "constant" "I" "ThesisDesk" ∈ lw_tbl := in_3 (List.mem_of_getElem? (i := 52) rfl)
theorem tn_3_56 : Cond.fieldLinkNest RX5 223 "ThesisDesk$Note" "before" "LThesisDesk$Note;" "ThesisDesk" ∈ lw_tbl := in_3 (List.mem_of_getElem? (i := 56) rfl)
theorem tn_1_40 : Cond.fieldLinkNest RX5 323 "ThesisDesk$Block" "leftInCases" "Z" "ThesisDesk" ∈ lw_tbl := in_1 (List.mem_of_getElem? (i := 40) rfl)
