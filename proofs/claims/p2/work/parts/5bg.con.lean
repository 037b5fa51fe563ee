/-! contracts, checked by the kernel (written by a program) -/
theorem q9_94 : sx_chk z9 ex_mt k9 tX11_copyRow 13 k9_94 u9_94 = true := by decide +kernel
theorem q9_95 : sx_chk z9 ex_mt k9 tX11_copyRow 13 k9_95 u9_95 = true := by decide +kernel
theorem q9_96 : sx_chk z9 ex_mt k9 tX11_copyRow 13 k9_96 u9_96 = true := by decide +kernel
theorem q9_97 : sx_chk z9 ex_mt k9 tX11_copyRow 13 k9_97 u9_97 = true := by decide +kernel
theorem q9_98 : sx_chk z9 ex_mt k9 tX11_copyRow 13 k9_98 u9_98 = true := by decide +kernel
theorem q9_99 : sx_chk z9 ex_mt k9 tX11_copyRow 13 k9_99 u9_99 = true := by decide +kernel
theorem q9_100 : sx_chk z9 ex_mt k9 tX11_copyRow 13 k9_100 u9_100 = true := by decide +kernel
theorem q9_101 : sx_chk z9 ex_mt k9 tX11_copyRow 13 k9_101 u9_101 = true := by decide +kernel
theorem q9_102 : sx_chk z9 ex_mt k9 tX11_copyRow 13 k9_102 u9_102 = true := by decide +kernel
theorem q9_103 : sx_chk z9 ex_mt k9 tX11_copyRow 13 k9_103 u9_103 = true := by decide +kernel
theorem q9_105 : sx_chk z9 ex_mt k9 tX11_copyRow 13 k9_105 u9_105 = true := by decide +kernel
theorem q9_108 : sx_chk z9 ex_mt k9 tX11_copyRow 13 k9_108 u9_108 = true := by decide +kernel
theorem q9_110 : sx_chk z9 ex_mt k9 tX11_copyRow 13 k9_110 u9_110 = true := by decide +kernel
theorem q9_111 : sx_chk z9 ex_mt k9 tX11_copyRow 13 k9_111 u9_111 = true := by decide +kernel
theorem q9_112 : sx_chk z9 ex_mt k9 tX11_copyRow 13 k9_112 u9_112 = true := by decide +kernel
theorem q9_113 : sx_chk z9 ex_mt k9 tX11_copyRow 13 k9_113 u9_113 = true := by decide +kernel
theorem q9_114 : sx_chk z9 ex_mt k9 tX11_copyRow 13 k9_114 u9_114 = true := by decide +kernel
theorem q9_115 : sx_chk z9 ex_mt k9 tX11_copyRow 13 k9_115 u9_115 = true := by decide +kernel
theorem q9_116 : sx_chk z9 ex_mt k9 tX11_copyRow 13 k9_116 u9_116 = true := by decide +kernel
theorem q9_120 : sx_chk z9 ex_mt k9 tX11_copyRow 13 k9_120 u9_120 = true := by decide +kernel
theorem q9_121 : sx_chk z9 ex_mt k9 tX11_copyRow 13 k9_121 u9_121 = true := by decide +kernel
theorem q9_122 : sx_chk z9 ex_mt k9 tX11_copyRow 13 k9_122 u9_122 = true := by decide +kernel
theorem q9_123 : sx_chk z9 ex_mt k9 tX11_copyRow 13 k9_123 u9_123 = true := by decide +kernel
theorem q9_124 : sx_chk z9 ex_mt k9 tX11_copyRow 13 k9_124 u9_124 = true := by decide +kernel
theorem q9_125 : sx_chk z9 ex_mt k9 tX11_copyRow 13 k9_125 u9_125 = true := by decide +kernel
theorem q9_126 : sx_chk z9 ex_mt k9 tX11_copyRow 13 k9_126 u9_126 = true := by decide +kernel
theorem q9_127 : sx_chk z9 ex_mt k9 tX11_copyRow 13 k9_127 u9_127 = true := by decide +kernel
theorem q9_128 : sx_chk z9 ex_mt k9 tX11_copyRow 13 k9_128 u9_128 = true := by decide +kernel
theorem q9_129 : sx_chk z9 ex_mt k9 tX11_copyRow 13 k9_129 u9_129 = true := by decide +kernel
theorem q9_130 : sx_chk z9 ex_mt k9 tX11_copyRow 13 k9_130 u9_130 = true := by decide +kernel
theorem q9_131 : sx_chk z9 ex_mt k9 tX11_copyRow 13 k9_131 u9_131 = true := by decide +kernel
theorem q9_132 : sx_chk z9 ex_mt k9 tX11_copyRow 13 k9_132 u9_132 = true := by decide +kernel
theorem q9_133 : sx_chk z9 ex_mt k9 tX11_copyRow 13 k9_133 u9_133 = true := by decide +kernel
theorem q9_134 : sx_chk z9 ex_mt k9 tX11_copyRow 13 k9_134 u9_134 = true := by decide +kernel
theorem q9_135 : sx_chk z9 ex_mt k9 tX11_copyRow 13 k9_135 u9_135 = true := by decide +kernel
theorem q9_136 : sx_chk z9 ex_mt k9 tX11_copyRow 13 k9_136 u9_136 = true := by decide +kernel
theorem q9_137 : sx_chk z9 ex_mt k9 tX11_copyRow 13 k9_137 u9_137 = true := by decide +kernel
theorem q9_138 : sx_chk z9 ex_mt k9 tX11_copyRow 13 k9_138 u9_138 = true := by decide +kernel
theorem q9_139 : sx_chk z9 ex_mt k9 tX11_copyRow 13 k9_139 u9_139 = true := by decide +kernel
theorem q9_140 : sx_chk z9 ex_mt k9 tX11_copyRow 13 k9_140 u9_140 = true := by decide +kernel
theorem q9_141 : sx_chk z9 ex_mt k9 tX11_copyRow 13 k9_141 u9_141 = true := by decide +kernel
theorem q9_142 : sx_chk z9 ex_mt k9 tX11_copyRow 13 k9_142 u9_142 = true := by decide +kernel
theorem q9_143 : sx_chk z9 ex_mt k9 tX11_copyRow 13 k9_143 u9_143 = true := by decide +kernel
theorem q9_253_e : sx_chkE z9 ex_mt k9 tX9_readFrom 299 k9_253 u9_253 0 = true := by decide +kernel
theorem q9_153 : sx_chk z9 ex_mt k9 tX12_end 15 k9_153 u9_153 = true := by decide +kernel
theorem q9_46 : sx_chk z9 ex_mt k9 tX11_end 14 k9_46 u9_46 = true := by decide +kernel
theorem q9_38 : sx_chk z9 ex_mt k9 tJ7_fill_53178 11 k9_38 u9_38 = true := by decide +kernel
theorem q9_39 : sx_chk z9 ex_mt k9 tJ7_fill_53178 11 k9_39 u9_39 = true := by decide +kernel
theorem q9_41 : sx_chk z9 ex_mt k9 tJ7_fill_53178 11 k9_41 u9_41 = true := by decide +kernel
theorem q9_76 : sx_chk z9 ex_mt k9 tJ7_fill_53178 11 k9_76 u9_76 = true := by decide +kernel
theorem q9_117 : sx_chk z9 ex_mt k9 tJ7_fill_53178 11 k9_117 u9_117 = true := by decide +kernel
theorem q9_118 : sx_chk z9 ex_mt k9 tJ7_fill_53178 11 k9_118 u9_118 = true := by decide +kernel
theorem q9_119 : sx_chk z9 ex_mt k9 tJ7_fill_53178 11 k9_119 u9_119 = true := by decide +kernel
theorem q9_229 : sx_chk z9 ex_mt k9 tX8_readCond 11 k9_229 u9_229 = true := by decide +kernel
theorem q9_159 : sx_chk z9 ex_mt k9 tX12_latest 9 k9_159 u9_159 = true := by decide +kernel
theorem q9_154 : sx_chk z9 ex_mt k9 tX12_fault 7 k9_154 u9_154 = true := by decide +kernel
theorem q9_235_e : sx_chkE z9 ex_mt k9 tX2_readFrom 169 k9_235 u9_235 0 = true := by decide +kernel
theorem q9_72 : sx_chk z9 ex_mt k9 tX11_latest 5 k9_72 u9_72 = true := by decide +kernel
theorem q9_47 : sx_chk z9 ex_mt k9 tX11_fault 4 k9_47 u9_47 = true := by decide +kernel
theorem q9_160 : sx_chk z9 ex_mt k9 tX12_next 158 k9_160 u9_160 = true := sx_chk_mk (n0 := 1) rfl q9_160_e (List.forall_mem_cons.mpr ⟨q9_160_0, List.forall_mem_cons.mpr ⟨q9_160_1, List.forall_mem_nil _⟩⟩)
theorem q9_223 : sx_chk z9 ex_mt k9 tX12_line 209 k9_223 u9_223 = true := sx_chk_mk (n0 := 1) rfl q9_223_e (List.forall_mem_cons.mpr ⟨q9_223_0, List.forall_mem_cons.mpr ⟨q9_223_1, List.forall_mem_cons.mpr ⟨q9_223_2, List.forall_mem_cons.mpr ⟨q9_223_3, List.forall_mem_cons.mpr ⟨q9_223_4, List.forall_mem_cons.mpr ⟨q9_223_5, List.forall_mem_cons.mpr ⟨q9_223_6, List.forall_mem_cons.mpr ⟨q9_223_7, List.forall_mem_cons.mpr ⟨q9_223_8, List.forall_mem_cons.mpr ⟨q9_223_9, List.forall_mem_cons.mpr ⟨q9_223_10, List.forall_mem_cons.mpr ⟨q9_223_11, List.forall_mem_cons.mpr ⟨q9_223_12, List.forall_mem_nil _⟩⟩⟩⟩⟩⟩⟩⟩⟩⟩⟩⟩⟩)
theorem q9_235 : sx_chk z9 ex_mt k9 tX2_readFrom 169 k9_235 u9_235 = true := sx_chk_mk (n0 := 0) rfl q9_235_e (List.forall_mem_cons.mpr ⟨q9_235_0, List.forall_mem_nil _⟩)
theorem q9_243 : sx_chk z9 ex_mt k9 tX12_log 721 k9_243 u9_243 = true := sx_chk_mk (n0 := 2) rfl q9_243_e (List.forall_mem_cons.mpr ⟨q9_243_0, List.forall_mem_cons.mpr ⟨q9_243_1, List.forall_mem_cons.mpr ⟨q9_243_2, List.forall_mem_nil _⟩⟩⟩)
theorem q9_244 : sx_chk z9 ex_mt k9 tX12_station 3864 k9_244 u9_244 = true := sx_chk_mk (n0 := 0) rfl q9_244_e (List.forall_mem_cons.mpr ⟨q9_244_0, List.forall_mem_nil _⟩)
theorem q9_253 : sx_chk z9 ex_mt k9 tX9_readFrom 299 k9_253 u9_253 = true := sx_chk_mk (n0 := 0) rfl q9_253_e (List.forall_mem_cons.mpr ⟨q9_253_0, List.forall_mem_nil _⟩)
