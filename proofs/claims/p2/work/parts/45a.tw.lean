theorem tw_4_182 : Cond.methodLink RX6 133 yX6_node ∈ lw_G := G_in (in_4 (List.mem_of_getElem? (i := 182) rfl)) rfl
theorem tw_4_184 : Cond.instanceMethod yX6_node ∈ lw_G := G_in (in_4 (List.mem_of_getElem? (i := 184) rfl)) rfl
theorem tw_s48 : Cond.selects RX6 yX6_node yX6_node ∈ lw_G := G_in (in_s (List.mem_of_getElem? (i := 48) rfl)) rfl
theorem tw_4_185 : Cond.code yX6_node cX6_node 11 (some .int) ∈ lw_G := G_in (in_4 (List.mem_of_getElem? (i := 185) rfl)) rfl
theorem tw_4_206 : Cond.methodLink RX6 130 yX6_give ∈ lw_G := G_in (in_4 (List.mem_of_getElem? (i := 206) rfl)) rfl
theorem tw_4_208 : Cond.instanceMethod yX6_give ∈ lw_G := G_in (in_4 (List.mem_of_getElem? (i := 208) rfl)) rfl
theorem tw_s51 : Cond.selects RX6 yX6_give yX6_give ∈ lw_G := G_in (in_s (List.mem_of_getElem? (i := 51) rfl)) rfl
theorem tw_4_209 : Cond.code yX6_give cX6_give 2 none ∈ lw_G := G_in (in_4 (List.mem_of_getElem? (i := 209) rfl)) rfl
theorem tw_4_178 : Cond.methodLink RX6 141 yX6_leaf ∈ lw_G := G_in (in_4 (List.mem_of_getElem? (i := 178) rfl)) rfl
theorem tw_4_180 : Cond.instanceMethod yX6_leaf ∈ lw_G := G_in (in_4 (List.mem_of_getElem? (i := 180) rfl)) rfl
theorem tw_s47 : Cond.selects RX6 yX6_leaf yX6_leaf ∈ lw_G := G_in (in_s (List.mem_of_getElem? (i := 47) rfl)) rfl
theorem tw_4_181 : Cond.code yX6_leaf cX6_leaf 3 (some .int) ∈ lw_G := G_in (in_4 (List.mem_of_getElem? (i := 181) rfl)) rfl
theorem tw_4_222 : Cond.methodLink RX6 144 yX6_with ∈ lw_G := G_in (in_4 (List.mem_of_getElem? (i := 222) rfl)) rfl
theorem tw_4_224 : Cond.instanceMethod yX6_with ∈ lw_G := G_in (in_4 (List.mem_of_getElem? (i := 224) rfl)) rfl
theorem tw_s54 : Cond.selects RX6 yX6_with yX6_with ∈ lw_G := G_in (in_s (List.mem_of_getElem? (i := 54) rfl)) rfl
theorem tw_4_225 : Cond.code yX6_with cX6_with 4 (some .int) ∈ lw_G := G_in (in_4 (List.mem_of_getElem? (i := 225) rfl)) rfl
