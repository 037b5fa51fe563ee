/-! contracts, checked by the kernel (written by a program) -/
theorem q9_65 : sx_chk z9 ex_mt k9 tX11_copyRow 13 k9_65 u9_65 = true := by decide +kernel
theorem q9_66 : sx_chk z9 ex_mt k9 tX11_copyRow 13 k9_66 u9_66 = true := by decide +kernel
theorem q9_67 : sx_chk z9 ex_mt k9 tX11_copyRow 13 k9_67 u9_67 = true := by decide +kernel
theorem q9_68 : sx_chk z9 ex_mt k9 tX11_copyRow 13 k9_68 u9_68 = true := by decide +kernel
theorem q9_69 : sx_chk z9 ex_mt k9 tX11_copyRow 13 k9_69 u9_69 = true := by decide +kernel
theorem q9_70 : sx_chk z9 ex_mt k9 tX11_copyRow 13 k9_70 u9_70 = true := by decide +kernel
theorem q9_71 : sx_chk z9 ex_mt k9 tX11_copyRow 13 k9_71 u9_71 = true := by decide +kernel
theorem q9_82 : sx_chk z9 ex_mt k9 tX11_copyRow 13 k9_82 u9_82 = true := by decide +kernel
theorem q9_83 : sx_chk z9 ex_mt k9 tX11_copyRow 13 k9_83 u9_83 = true := by decide +kernel
theorem q9_84 : sx_chk z9 ex_mt k9 tX11_copyRow 13 k9_84 u9_84 = true := by decide +kernel
theorem q9_85 : sx_chk z9 ex_mt k9 tX11_copyRow 13 k9_85 u9_85 = true := by decide +kernel
theorem q9_86 : sx_chk z9 ex_mt k9 tX11_copyRow 13 k9_86 u9_86 = true := by decide +kernel
theorem q9_87 : sx_chk z9 ex_mt k9 tX11_copyRow 13 k9_87 u9_87 = true := by decide +kernel
theorem q9_88 : sx_chk z9 ex_mt k9 tX11_copyRow 13 k9_88 u9_88 = true := by decide +kernel
theorem q9_89 : sx_chk z9 ex_mt k9 tX11_copyRow 13 k9_89 u9_89 = true := by decide +kernel
theorem q9_90 : sx_chk z9 ex_mt k9 tX11_copyRow 13 k9_90 u9_90 = true := by decide +kernel
theorem q9_91 : sx_chk z9 ex_mt k9 tX11_copyRow 13 k9_91 u9_91 = true := by decide +kernel
theorem q9_92 : sx_chk z9 ex_mt k9 tX11_copyRow 13 k9_92 u9_92 = true := by decide +kernel
theorem q9_93 : sx_chk z9 ex_mt k9 tX11_copyRow 13 k9_93 u9_93 = true := by decide +kernel
theorem q9_94 : sx_chk z9 ex_mt k9 tX11_copyRow 13 k9_94 u9_94 = true := by decide +kernel
theorem q9_95 : sx_chk z9 ex_mt k9 tX11_copyRow 13 k9_95 u9_95 = true := by decide +kernel
theorem q9_96 : sx_chk z9 ex_mt k9 tX11_copyRow 13 k9_96 u9_96 = true := by decide +kernel
theorem q9_97 : sx_chk z9 ex_mt k9 tX11_copyRow 13 k9_97 u9_97 = true := by decide +kernel
theorem q9_98 : sx_chk z9 ex_mt k9 tX11_copyRow 13 k9_98 u9_98 = true := by decide +kernel
theorem q9_99 : sx_chk z9 ex_mt k9 tX11_copyRow 13 k9_99 u9_99 = true := by decide +kernel
theorem q9_100 : sx_chk z9 ex_mt k9 tX11_copyRow 13 k9_100 u9_100 = true := by decide +kernel
theorem q9_101 : sx_chk z9 ex_mt k9 tX11_copyRow 13 k9_101 u9_101 = true := by decide +kernel
theorem q9_102 : sx_chk z9 ex_mt k9 tX11_copyRow 13 k9_102 u9_102 = true := by decide +kernel
theorem q9_103 : sx_chk z9 ex_mt k9 tX11_copyRow 13 k9_103 u9_103 = true := by decide +kernel
theorem q9_105 : sx_chk z9 ex_mt k9 tX11_copyRow 13 k9_105 u9_105 = true := by decide +kernel
theorem q9_108 : sx_chk z9 ex_mt k9 tX11_copyRow 13 k9_108 u9_108 = true := by decide +kernel
theorem q9_110 : sx_chk z9 ex_mt k9 tX11_copyRow 13 k9_110 u9_110 = true := by decide +kernel
theorem q9_111 : sx_chk z9 ex_mt k9 tX11_copyRow 13 k9_111 u9_111 = true := by decide +kernel
theorem q9_112 : sx_chk z9 ex_mt k9 tX11_copyRow 13 k9_112 u9_112 = true := by decide +kernel
theorem q9_113 : sx_chk z9 ex_mt k9 tX11_copyRow 13 k9_113 u9_113 = true := by decide +kernel
theorem q9_114 : sx_chk z9 ex_mt k9 tX11_copyRow 13 k9_114 u9_114 = true := by decide +kernel
theorem q9_115 : sx_chk z9 ex_mt k9 tX11_copyRow 13 k9_115 u9_115 = true := by decide +kernel
theorem q9_116 : sx_chk z9 ex_mt k9 tX11_copyRow 13 k9_116 u9_116 = true := by decide +kernel
theorem q9_120 : sx_chk z9 ex_mt k9 tX11_copyRow 13 k9_120 u9_120 = true := by decide +kernel
theorem q9_121 : sx_chk z9 ex_mt k9 tX11_copyRow 13 k9_121 u9_121 = true := by decide +kernel
theorem q9_122 : sx_chk z9 ex_mt k9 tX11_copyRow 13 k9_122 u9_122 = true := by decide +kernel
theorem q9_123 : sx_chk z9 ex_mt k9 tX11_copyRow 13 k9_123 u9_123 = true := by decide +kernel
theorem q9_124 : sx_chk z9 ex_mt k9 tX11_copyRow 13 k9_124 u9_124 = true := by decide +kernel
theorem q9_125 : sx_chk z9 ex_mt k9 tX11_copyRow 13 k9_125 u9_125 = true := by decide +kernel
theorem q9_126 : sx_chk z9 ex_mt k9 tX11_copyRow 13 k9_126 u9_126 = true := by decide +kernel
theorem q9_127 : sx_chk z9 ex_mt k9 tX11_copyRow 13 k9_127 u9_127 = true := by decide +kernel
theorem q9_128 : sx_chk z9 ex_mt k9 tX11_copyRow 13 k9_128 u9_128 = true := by decide +kernel
theorem q9_129 : sx_chk z9 ex_mt k9 tX11_copyRow 13 k9_129 u9_129 = true := by decide +kernel
theorem q9_130 : sx_chk z9 ex_mt k9 tX11_copyRow 13 k9_130 u9_130 = true := by decide +kernel
theorem q9_131 : sx_chk z9 ex_mt k9 tX11_copyRow 13 k9_131 u9_131 = true := by decide +kernel
theorem q9_132 : sx_chk z9 ex_mt k9 tX11_copyRow 13 k9_132 u9_132 = true := by decide +kernel
theorem q9_133 : sx_chk z9 ex_mt k9 tX11_copyRow 13 k9_133 u9_133 = true := by decide +kernel
theorem q9_134 : sx_chk z9 ex_mt k9 tX11_copyRow 13 k9_134 u9_134 = true := by decide +kernel
theorem q9_135 : sx_chk z9 ex_mt k9 tX11_copyRow 13 k9_135 u9_135 = true := by decide +kernel
theorem q9_136 : sx_chk z9 ex_mt k9 tX11_copyRow 13 k9_136 u9_136 = true := by decide +kernel
theorem q9_137 : sx_chk z9 ex_mt k9 tX11_copyRow 13 k9_137 u9_137 = true := by decide +kernel
theorem q9_138 : sx_chk z9 ex_mt k9 tX11_copyRow 13 k9_138 u9_138 = true := by decide +kernel
theorem q9_139 : sx_chk z9 ex_mt k9 tX11_copyRow 13 k9_139 u9_139 = true := by decide +kernel
theorem q9_140 : sx_chk z9 ex_mt k9 tX11_copyRow 13 k9_140 u9_140 = true := by decide +kernel
theorem q9_141 : sx_chk z9 ex_mt k9 tX11_copyRow 13 k9_141 u9_141 = true := by decide +kernel
theorem q9_142 : sx_chk z9 ex_mt k9 tX11_copyRow 13 k9_142 u9_142 = true := by decide +kernel
theorem q9_143 : sx_chk z9 ex_mt k9 tX11_copyRow 13 k9_143 u9_143 = true := by decide +kernel
theorem q9_247_e : sx_chkE z9 ex_mt k9 tX9_readFrom 299 k9_247 u9_247 0 = true := by decide +kernel
theorem q9_153 : sx_chk z9 ex_mt k9 tX12_end 15 k9_153 u9_153 = true := by decide +kernel
theorem q9_46 : sx_chk z9 ex_mt k9 tX11_end 14 k9_46 u9_46 = true := by decide +kernel
theorem q9_38 : sx_chk z9 ex_mt k9 tJ7_fill_53178 11 k9_38 u9_38 = true := by decide +kernel
theorem q9_39 : sx_chk z9 ex_mt k9 tJ7_fill_53178 11 k9_39 u9_39 = true := by decide +kernel
theorem q9_41 : sx_chk z9 ex_mt k9 tJ7_fill_53178 11 k9_41 u9_41 = true := by decide +kernel
theorem q9_76 : sx_chk z9 ex_mt k9 tJ7_fill_53178 11 k9_76 u9_76 = true := by decide +kernel
theorem q9_117 : sx_chk z9 ex_mt k9 tJ7_fill_53178 11 k9_117 u9_117 = true := by decide +kernel
theorem q9_118 : sx_chk z9 ex_mt k9 tJ7_fill_53178 11 k9_118 u9_118 = true := by decide +kernel
theorem q9_119 : sx_chk z9 ex_mt k9 tJ7_fill_53178 11 k9_119 u9_119 = true := by decide +kernel
theorem q9_223 : sx_chk z9 ex_mt k9 tX8_readCond 11 k9_223 u9_223 = true := by decide +kernel
theorem q9_157 : sx_chk z9 ex_mt k9 tX12_latest 9 k9_157 u9_157 = true := by decide +kernel
theorem q9_154 : sx_chk z9 ex_mt k9 tX12_fault 7 k9_154 u9_154 = true := by decide +kernel
theorem q9_229_e : sx_chkE z9 ex_mt k9 tX2_readFrom 169 k9_229 u9_229 0 = true := by decide +kernel
theorem q9_72 : sx_chk z9 ex_mt k9 tX11_latest 5 k9_72 u9_72 = true := by decide +kernel
theorem q9_158 : sx_chk z9 ex_mt k9 tX12_next 158 k9_158 u9_158 = true := sx_chk_mk (n0 := 1) rfl q9_158_e (List.forall_mem_cons.mpr ⟨q9_158_0, List.forall_mem_cons.mpr ⟨q9_158_1, List.forall_mem_nil _⟩⟩)
theorem q9_217 : sx_chk z9 ex_mt k9 tX12_line 209 k9_217 u9_217 = true := sx_chk_mk (n0 := 1) rfl q9_217_e (List.forall_mem_cons.mpr ⟨q9_217_0, List.forall_mem_cons.mpr ⟨q9_217_1, List.forall_mem_cons.mpr ⟨q9_217_2, List.forall_mem_cons.mpr ⟨q9_217_3, List.forall_mem_cons.mpr ⟨q9_217_4, List.forall_mem_cons.mpr ⟨q9_217_5, List.forall_mem_cons.mpr ⟨q9_217_6, List.forall_mem_cons.mpr ⟨q9_217_7, List.forall_mem_cons.mpr ⟨q9_217_8, List.forall_mem_cons.mpr ⟨q9_217_9, List.forall_mem_cons.mpr ⟨q9_217_10, List.forall_mem_cons.mpr ⟨q9_217_11, List.forall_mem_cons.mpr ⟨q9_217_12, List.forall_mem_nil _⟩⟩⟩⟩⟩⟩⟩⟩⟩⟩⟩⟩⟩)
theorem q9_229 : sx_chk z9 ex_mt k9 tX2_readFrom 169 k9_229 u9_229 = true := sx_chk_mk (n0 := 0) rfl q9_229_e (List.forall_mem_cons.mpr ⟨q9_229_0, List.forall_mem_nil _⟩)
theorem q9_237 : sx_chk z9 ex_mt k9 tX12_log 721 k9_237 u9_237 = true := sx_chk_mk (n0 := 2) rfl q9_237_e (List.forall_mem_cons.mpr ⟨q9_237_0, List.forall_mem_cons.mpr ⟨q9_237_1, List.forall_mem_cons.mpr ⟨q9_237_2, List.forall_mem_nil _⟩⟩⟩)
theorem q9_238 : sx_chk z9 ex_mt k9 tX12_station 3864 k9_238 u9_238 = true := sx_chk_mk (n0 := 0) rfl q9_238_e (List.forall_mem_cons.mpr ⟨q9_238_0, List.forall_mem_nil _⟩)
theorem q9_247 : sx_chk z9 ex_mt k9 tX9_readFrom 299 k9_247 u9_247 = true := sx_chk_mk (n0 := 0) rfl q9_247_e (List.forall_mem_cons.mpr ⟨q9_247_0, List.forall_mem_nil _⟩)
