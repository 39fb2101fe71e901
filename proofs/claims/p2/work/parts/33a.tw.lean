theorem tn_1_36 : Cond.fieldLinkNest RX5 183 "ThesisDesk$Block" "thesis" "LThesisDesk$Form;" "ThesisDesk" ∈ lw_tbl := in_1 (List.mem_of_getElem? (i := 36) rfl)
