set_option maxRecDepth 100000 in
theorem q_1396_t : Cond.code yX12_init cX12_init 1 none ∈ k2_sels lw_privs ++ (tables_1_1 ++ (tables_1_2 ++ (tables_1_3 ++ (tables_1_4 ++ (tables_1_5 ++ (tables_1_6 ++ (tables_1_7 ++ (tables_1_8 ++ (tables_1_9))))))))) := List.mem_append_right _ (List.mem_append_right _ (List.mem_append_right _ (List.mem_append_right _ (List.mem_append_right _ (List.mem_append_right _ (List.mem_append_left _ (List.mem_of_getElem? (i := 46) rfl)))))))
theorem q_1396 : Cond.code yX12_init cX12_init 1 none ∈ GW := List.mem_filter.mpr ⟨q_1396_t, rfl⟩
