theorem dX1_countPairs_7 : decode cX1_countPairs 7 = .ok (.aload_n 0, 1) := dn_aload_n_0 hB_cX1_countPairs (by decide +kernel)
theorem dX1_countPairs_8 : decode cX1_countPairs 8 = .ok (.sipush 1024, 3) := dn_sipush hB_cX1_countPairs (by decide +kernel)
theorem dX1_countPairs_11 : decode cX1_countPairs 11 = .ok (.newarray .int, 2) := dn_newarray_int hB_cX1_countPairs (by decide +kernel)
theorem dX1_countPairs_13 : decode cX1_countPairs 13 = .ok (.putfield 66, 3) := dn_putfield hB_cX1_countPairs (by decide +kernel)
theorem dX11_image_11 : decode cX11_image 11 = .ok (.aload_n 0, 1) := dn_aload_n_0 hB_cX11_image (by decide +kernel)
theorem dX11_image_12 : decode cX11_image 12 = .ok (.new 9, 3) := dn_new hB_cX11_image (by decide +kernel)
theorem dX11_image_15 : decode cX11_image 15 = .ok (.dup, 1) := dn_dup hB_cX11_image (by decide +kernel)
theorem dX11_image_16 : decode cX11_image 16 = .ok (.invokespecial 11, 3) := dn_invokespecial hB_cX11_image (by decide +kernel)
theorem dX11_image_19 : decode cX11_image 19 = .ok (.putfield 370, 3) := dn_putfield hB_cX11_image (by decide +kernel)
theorem dX11_plan_66 : decode cX11_plan 66 = .ok (.aload_n 0, 1) := dn_aload_n_0 hB_cX11_plan (by decide +kernel)
theorem dX11_plan_67 : decode cX11_plan 67 = .ok (.new 222, 3) := dn_new hB_cX11_plan (by decide +kernel)
theorem dX11_plan_70 : decode cX11_plan 70 = .ok (.dup, 1) := dn_dup hB_cX11_plan (by decide +kernel)
theorem dX11_plan_71 : decode cX11_plan 71 = .ok (.invokespecial 304, 3) := dn_invokespecial hB_cX11_plan (by decide +kernel)
theorem dX11_plan_74 : decode cX11_plan 74 = .ok (.putfield 217, 3) := dn_putfield hB_cX11_plan (by decide +kernel)
theorem q_1154 : Cond.classLink RX11 222 RX6 ∈ GW := inT_5 (List.mem_of_getElem? (i := 44) rfl) rfl
theorem q_1155 : Cond.instantiable RX6 10 ∈ GW := inT_5 (List.mem_of_getElem? (i := 45) rfl) rfl
theorem q_1156 : Cond.methodLink RX11 304 yX6_init ∈ GW := inT_5 (List.mem_of_getElem? (i := 46) rfl) rfl
theorem q_1157 : Cond.instanceMethod yX6_init ∈ GW := inT_5 (List.mem_of_getElem? (i := 47) rfl) rfl
theorem q_1158 : Cond.code yX6_init cX6_init 1 none ∈ GW := inT_5 (List.mem_of_getElem? (i := 48) rfl) rfl
theorem q_179 : Cond.classLink RX11 9 RX10 ∈ GW := inT_1 (List.mem_of_getElem? (i := 29) rfl) rfl
theorem q_180 : Cond.instantiable RX10 17 ∈ GW := inT_1 (List.mem_of_getElem? (i := 30) rfl) rfl
theorem q_181 : Cond.methodLink RX11 11 yX10_init ∈ GW := inT_1 (List.mem_of_getElem? (i := 31) rfl) rfl
theorem q_182 : Cond.instanceMethod yX10_init ∈ GW := inT_1 (List.mem_of_getElem? (i := 32) rfl) rfl
theorem q_183 : Cond.code yX10_init cX10_init 1 none ∈ GW := inT_1 (List.mem_of_getElem? (i := 33) rfl) rfl
theorem hdI_X10_init : yX10_init.cls ≠ "java/lang/invoke/MethodHandle" ∧ yX10_init.cls ≠ "java/lang/invoke/VarHandle" ∧ (parseMethodDescriptor yX10_init.desc).map (fun d => d.parameters.length) = some 0 := by decide +kernel
theorem hdI_X6_init : yX6_init.cls ≠ "java/lang/invoke/MethodHandle" ∧ yX6_init.cls ≠ "java/lang/invoke/VarHandle" ∧ (parseMethodDescriptor yX6_init.desc).map (fun d => d.parameters.length) = some 0 := by decide +kernel
