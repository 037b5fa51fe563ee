/-! contracts, checked by the kernel (written by a program) -/
theorem q9_131 : sx_chk z9 ex_mt k9 tX11_copyRow 13 k9_131 u9_131 = true := by decide +kernel
theorem q9_132 : sx_chk z9 ex_mt k9 tX11_copyRow 13 k9_132 u9_132 = true := by decide +kernel
theorem q9_133 : sx_chk z9 ex_mt k9 tX11_copyRow 13 k9_133 u9_133 = true := by decide +kernel
theorem q9_134 : sx_chk z9 ex_mt k9 tX11_copyRow 13 k9_134 u9_134 = true := by decide +kernel
theorem q9_135 : sx_chk z9 ex_mt k9 tX11_copyRow 13 k9_135 u9_135 = true := by decide +kernel
theorem q9_136 : sx_chk z9 ex_mt k9 tX11_copyRow 13 k9_136 u9_136 = true := by decide +kernel
theorem q9_137 : sx_chk z9 ex_mt k9 tX11_copyRow 13 k9_137 u9_137 = true := by decide +kernel
theorem q9_138 : sx_chk z9 ex_mt k9 tX11_copyRow 13 k9_138 u9_138 = true := by decide +kernel
theorem q9_139 : sx_chk z9 ex_mt k9 tX11_copyRow 13 k9_139 u9_139 = true := by decide +kernel
theorem q9_140 : sx_chk z9 ex_mt k9 tX11_copyRow 13 k9_140 u9_140 = true := by decide +kernel
theorem q9_141 : sx_chk z9 ex_mt k9 tX11_copyRow 13 k9_141 u9_141 = true := by decide +kernel
theorem q9_142 : sx_chk z9 ex_mt k9 tX11_copyRow 13 k9_142 u9_142 = true := by decide +kernel
theorem q9_143 : sx_chk z9 ex_mt k9 tX11_copyRow 13 k9_143 u9_143 = true := by decide +kernel
theorem q9_253_e : sx_chkE z9 ex_mt k9 tX9_readFrom 299 k9_253 u9_253 0 = true := by decide +kernel
theorem q9_153 : sx_chk z9 ex_mt k9 tX12_end 15 k9_153 u9_153 = true := by decide +kernel
theorem q9_46 : sx_chk z9 ex_mt k9 tX11_end 14 k9_46 u9_46 = true := by decide +kernel
theorem q9_38 : sx_chk z9 ex_mt k9 tJ7_fill_53178 11 k9_38 u9_38 = true := by decide +kernel
theorem q9_39 : sx_chk z9 ex_mt k9 tJ7_fill_53178 11 k9_39 u9_39 = true := by decide +kernel
theorem q9_41 : sx_chk z9 ex_mt k9 tJ7_fill_53178 11 k9_41 u9_41 = true := by decide +kernel
theorem q9_76 : sx_chk z9 ex_mt k9 tJ7_fill_53178 11 k9_76 u9_76 = true := by decide +kernel
theorem q9_117 : sx_chk z9 ex_mt k9 tJ7_fill_53178 11 k9_117 u9_117 = true := by decide +kernel
theorem q9_118 : sx_chk z9 ex_mt k9 tJ7_fill_53178 11 k9_118 u9_118 = true := by decide +kernel
theorem q9_119 : sx_chk z9 ex_mt k9 tJ7_fill_53178 11 k9_119 u9_119 = true := by decide +kernel
theorem q9_229 : sx_chk z9 ex_mt k9 tX8_readCond 11 k9_229 u9_229 = true := by decide +kernel
theorem q9_159 : sx_chk z9 ex_mt k9 tX12_latest 9 k9_159 u9_159 = true := by decide +kernel
theorem q9_235_e : sx_chkE z9 ex_mt k9 tX2_readFrom 169 k9_235 u9_235 0 = true := by decide +kernel
theorem q9_72 : sx_chk z9 ex_mt k9 tX11_latest 5 k9_72 u9_72 = true := by decide +kernel
theorem q9_47 : sx_chk z9 ex_mt k9 tX11_fault 4 k9_47 u9_47 = true := by decide +kernel
theorem q9_160 : sx_chk z9 ex_mt k9 tX12_next 158 k9_160 u9_160 = true := sx_chk_mk (n0 := 1) rfl q9_160_e (List.forall_mem_cons.mpr ⟨q9_160_0, List.forall_mem_cons.mpr ⟨q9_160_1, List.forall_mem_nil _⟩⟩)
theorem q9_223 : sx_chk z9 ex_mt k9 tX12_line 213 k9_223 u9_223 = true := sx_chk_mk (n0 := 1) rfl q9_223_e (List.forall_mem_cons.mpr ⟨q9_223_0, List.forall_mem_cons.mpr ⟨q9_223_1, List.forall_mem_cons.mpr ⟨q9_223_2, List.forall_mem_cons.mpr ⟨q9_223_3, List.forall_mem_nil _⟩⟩⟩⟩)
theorem q9_235 : sx_chk z9 ex_mt k9 tX2_readFrom 169 k9_235 u9_235 = true := sx_chk_mk (n0 := 0) rfl q9_235_e (List.forall_mem_cons.mpr ⟨q9_235_0, List.forall_mem_nil _⟩)
theorem q9_243 : sx_chk z9 ex_mt k9 tX12_log 721 k9_243 u9_243 = true := sx_chk_mk (n0 := 2) rfl q9_243_e (List.forall_mem_cons.mpr ⟨q9_243_0, List.forall_mem_cons.mpr ⟨q9_243_1, List.forall_mem_cons.mpr ⟨q9_243_2, List.forall_mem_nil _⟩⟩⟩)
theorem q9_244 : sx_chk z9 ex_mt k9 tX12_station 3864 k9_244 u9_244 = true := sx_chk_mk (n0 := 0) rfl q9_244_e (List.forall_mem_cons.mpr ⟨q9_244_0, List.forall_mem_nil _⟩)
theorem q9_253 : sx_chk z9 ex_mt k9 tX9_readFrom 299 k9_253 u9_253 = true := sx_chk_mk (n0 := 0) rfl q9_253_e (List.forall_mem_cons.mpr ⟨q9_253_0, List.forall_mem_nil _⟩)
