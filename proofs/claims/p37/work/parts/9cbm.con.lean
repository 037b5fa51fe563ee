/-! contracts, checked by the kernel (written by a program) -/
theorem q9_30 : sx_chk z9 ex_mt k9 tX11_copyRow 13 k9_30 u9_30 = true := by decide +kernel
theorem q9_31 : sx_chk z9 ex_mt k9 tX11_copyRow 13 k9_31 u9_31 = true := by decide +kernel
theorem q9_32 : sx_chk z9 ex_mt k9 tX11_copyRow 13 k9_32 u9_32 = true := by decide +kernel
theorem q9_33 : sx_chk z9 ex_mt k9 tX11_copyRow 13 k9_33 u9_33 = true := by decide +kernel
theorem q9_34 : sx_chk z9 ex_mt k9 tX11_copyRow 13 k9_34 u9_34 = true := by decide +kernel
theorem q9_35 : sx_chk z9 ex_mt k9 tX11_copyRow 13 k9_35 u9_35 = true := by decide +kernel
theorem q9_36 : sx_chk z9 ex_mt k9 tX11_copyRow 13 k9_36 u9_36 = true := by decide +kernel
theorem q9_50 : sx_chk z9 ex_mt k9 tX11_copyRow 13 k9_50 u9_50 = true := by decide +kernel
theorem q9_51 : sx_chk z9 ex_mt k9 tX11_copyRow 13 k9_51 u9_51 = true := by decide +kernel
theorem q9_53 : sx_chk z9 ex_mt k9 tX11_copyRow 13 k9_53 u9_53 = true := by decide +kernel
theorem q9_54 : sx_chk z9 ex_mt k9 tX11_copyRow 13 k9_54 u9_54 = true := by decide +kernel
theorem q9_55 : sx_chk z9 ex_mt k9 tX11_copyRow 13 k9_55 u9_55 = true := by decide +kernel
theorem q9_57 : sx_chk z9 ex_mt k9 tX11_copyRow 13 k9_57 u9_57 = true := by decide +kernel
theorem q9_58 : sx_chk z9 ex_mt k9 tX11_copyRow 13 k9_58 u9_58 = true := by decide +kernel
theorem q9_59 : sx_chk z9 ex_mt k9 tX11_copyRow 13 k9_59 u9_59 = true := by decide +kernel
theorem q9_60 : sx_chk z9 ex_mt k9 tX11_copyRow 13 k9_60 u9_60 = true := by decide +kernel
theorem q9_61 : sx_chk z9 ex_mt k9 tX11_copyRow 13 k9_61 u9_61 = true := by decide +kernel
theorem q9_62 : sx_chk z9 ex_mt k9 tX11_copyRow 13 k9_62 u9_62 = true := by decide +kernel
theorem q9_64 : sx_chk z9 ex_mt k9 tX11_copyRow 13 k9_64 u9_64 = true := by decide +kernel
theorem q9_65 : sx_chk z9 ex_mt k9 tX11_copyRow 13 k9_65 u9_65 = true := by decide +kernel
theorem q9_66 : sx_chk z9 ex_mt k9 tX11_copyRow 13 k9_66 u9_66 = true := by decide +kernel
theorem q9_68 : sx_chk z9 ex_mt k9 tX11_copyRow 13 k9_68 u9_68 = true := by decide +kernel
theorem q9_69 : sx_chk z9 ex_mt k9 tX11_copyRow 13 k9_69 u9_69 = true := by decide +kernel
theorem q9_70 : sx_chk z9 ex_mt k9 tX11_copyRow 13 k9_70 u9_70 = true := by decide +kernel
theorem q9_71 : sx_chk z9 ex_mt k9 tX11_copyRow 13 k9_71 u9_71 = true := by decide +kernel
theorem q9_82 : sx_chk z9 ex_mt k9 tX11_copyRow 13 k9_82 u9_82 = true := by decide +kernel
theorem q9_83 : sx_chk z9 ex_mt k9 tX11_copyRow 13 k9_83 u9_83 = true := by decide +kernel
theorem q9_85 : sx_chk z9 ex_mt k9 tX11_copyRow 13 k9_85 u9_85 = true := by decide +kernel
theorem q9_86 : sx_chk z9 ex_mt k9 tX11_copyRow 13 k9_86 u9_86 = true := by decide +kernel
theorem q9_87 : sx_chk z9 ex_mt k9 tX11_copyRow 13 k9_87 u9_87 = true := by decide +kernel
theorem q9_89 : sx_chk z9 ex_mt k9 tX11_copyRow 13 k9_89 u9_89 = true := by decide +kernel
theorem q9_90 : sx_chk z9 ex_mt k9 tX11_copyRow 13 k9_90 u9_90 = true := by decide +kernel
theorem q9_91 : sx_chk z9 ex_mt k9 tX11_copyRow 13 k9_91 u9_91 = true := by decide +kernel
theorem q9_92 : sx_chk z9 ex_mt k9 tX11_copyRow 13 k9_92 u9_92 = true := by decide +kernel
theorem q9_93 : sx_chk z9 ex_mt k9 tX11_copyRow 13 k9_93 u9_93 = true := by decide +kernel
theorem q9_94 : sx_chk z9 ex_mt k9 tX11_copyRow 13 k9_94 u9_94 = true := by decide +kernel
theorem q9_96 : sx_chk z9 ex_mt k9 tX11_copyRow 13 k9_96 u9_96 = true := by decide +kernel
theorem q9_97 : sx_chk z9 ex_mt k9 tX11_copyRow 13 k9_97 u9_97 = true := by decide +kernel
theorem q9_98 : sx_chk z9 ex_mt k9 tX11_copyRow 13 k9_98 u9_98 = true := by decide +kernel
theorem q9_100 : sx_chk z9 ex_mt k9 tX11_copyRow 13 k9_100 u9_100 = true := by decide +kernel
theorem q9_101 : sx_chk z9 ex_mt k9 tX11_copyRow 13 k9_101 u9_101 = true := by decide +kernel
theorem q9_102 : sx_chk z9 ex_mt k9 tX11_copyRow 13 k9_102 u9_102 = true := by decide +kernel
theorem q9_103 : sx_chk z9 ex_mt k9 tX11_copyRow 13 k9_103 u9_103 = true := by decide +kernel
theorem q9_105 : sx_chk z9 ex_mt k9 tX11_copyRow 13 k9_105 u9_105 = true := by decide +kernel
theorem q9_110 : sx_chk z9 ex_mt k9 tX11_copyRow 13 k9_110 u9_110 = true := by decide +kernel
theorem q9_111 : sx_chk z9 ex_mt k9 tX11_copyRow 13 k9_111 u9_111 = true := by decide +kernel
theorem q9_113 : sx_chk z9 ex_mt k9 tX11_copyRow 13 k9_113 u9_113 = true := by decide +kernel
theorem q9_114 : sx_chk z9 ex_mt k9 tX11_copyRow 13 k9_114 u9_114 = true := by decide +kernel
theorem q9_115 : sx_chk z9 ex_mt k9 tX11_copyRow 13 k9_115 u9_115 = true := by decide +kernel
theorem q9_120 : sx_chk z9 ex_mt k9 tX11_copyRow 13 k9_120 u9_120 = true := by decide +kernel
theorem q9_121 : sx_chk z9 ex_mt k9 tX11_copyRow 13 k9_121 u9_121 = true := by decide +kernel
theorem q9_122 : sx_chk z9 ex_mt k9 tX11_copyRow 13 k9_122 u9_122 = true := by decide +kernel
theorem q9_123 : sx_chk z9 ex_mt k9 tX11_copyRow 13 k9_123 u9_123 = true := by decide +kernel
theorem q9_124 : sx_chk z9 ex_mt k9 tX11_copyRow 13 k9_124 u9_124 = true := by decide +kernel
theorem q9_125 : sx_chk z9 ex_mt k9 tX11_copyRow 13 k9_125 u9_125 = true := by decide +kernel
theorem q9_126 : sx_chk z9 ex_mt k9 tX11_copyRow 13 k9_126 u9_126 = true := by decide +kernel
theorem q9_127 : sx_chk z9 ex_mt k9 tX11_copyRow 13 k9_127 u9_127 = true := by decide +kernel
theorem q9_128 : sx_chk z9 ex_mt k9 tX11_copyRow 13 k9_128 u9_128 = true := by decide +kernel
theorem q9_129 : sx_chk z9 ex_mt k9 tX11_copyRow 13 k9_129 u9_129 = true := by decide +kernel
theorem q9_130 : sx_chk z9 ex_mt k9 tX11_copyRow 13 k9_130 u9_130 = true := by decide +kernel
theorem q9_131 : sx_chk z9 ex_mt k9 tX11_copyRow 13 k9_131 u9_131 = true := by decide +kernel
theorem q9_132 : sx_chk z9 ex_mt k9 tX11_copyRow 13 k9_132 u9_132 = true := by decide +kernel
theorem q9_133 : sx_chk z9 ex_mt k9 tX11_copyRow 13 k9_133 u9_133 = true := by decide +kernel
theorem q9_134 : sx_chk z9 ex_mt k9 tX11_copyRow 13 k9_134 u9_134 = true := by decide +kernel
theorem q9_135 : sx_chk z9 ex_mt k9 tX11_copyRow 13 k9_135 u9_135 = true := by decide +kernel
theorem q9_136 : sx_chk z9 ex_mt k9 tX11_copyRow 13 k9_136 u9_136 = true := by decide +kernel
theorem q9_137 : sx_chk z9 ex_mt k9 tX11_copyRow 13 k9_137 u9_137 = true := by decide +kernel
theorem q9_138 : sx_chk z9 ex_mt k9 tX11_copyRow 13 k9_138 u9_138 = true := by decide +kernel
theorem q9_139 : sx_chk z9 ex_mt k9 tX11_copyRow 13 k9_139 u9_139 = true := by decide +kernel
theorem q9_140 : sx_chk z9 ex_mt k9 tX11_copyRow 13 k9_140 u9_140 = true := by decide +kernel
theorem q9_141 : sx_chk z9 ex_mt k9 tX11_copyRow 13 k9_141 u9_141 = true := by decide +kernel
theorem q9_142 : sx_chk z9 ex_mt k9 tX11_copyRow 13 k9_142 u9_142 = true := by decide +kernel
theorem q9_143 : sx_chk z9 ex_mt k9 tX11_copyRow 13 k9_143 u9_143 = true := by decide +kernel
theorem q9_46 : sx_chk z9 ex_mt k9 tX11_end 14 k9_46 u9_46 = true := by decide +kernel
theorem q9_247_e : sx_chkE z9 ex_mt k9 tX9_readFrom 299 k9_247 u9_247 0 = true := by decide +kernel
theorem q9_38 : sx_chk z9 ex_mt k9 tJ7_fill_53178 11 k9_38 u9_38 = true := by decide +kernel
theorem q9_39 : sx_chk z9 ex_mt k9 tJ7_fill_53178 11 k9_39 u9_39 = true := by decide +kernel
theorem q9_41 : sx_chk z9 ex_mt k9 tJ7_fill_53178 11 k9_41 u9_41 = true := by decide +kernel
theorem q9_76 : sx_chk z9 ex_mt k9 tJ7_fill_53178 11 k9_76 u9_76 = true := by decide +kernel
theorem q9_117 : sx_chk z9 ex_mt k9 tJ7_fill_53178 11 k9_117 u9_117 = true := by decide +kernel
theorem q9_118 : sx_chk z9 ex_mt k9 tJ7_fill_53178 11 k9_118 u9_118 = true := by decide +kernel
theorem q9_119 : sx_chk z9 ex_mt k9 tJ7_fill_53178 11 k9_119 u9_119 = true := by decide +kernel
theorem q9_271_e : sx_chkE z9 ex_mt (k9o [172]) tX12_draws 586 k9_271 u9_271 2 = true := by decide +kernel
theorem q9_154 : sx_chk z9 ex_mt k9 tX12_fault 7 k9_154 u9_154 = true := by decide +kernel
theorem q9_72 : sx_chk z9 ex_mt k9 tX11_latest 5 k9_72 u9_72 = true := by decide +kernel
theorem q9_47 : sx_chk z9 ex_mt k9 tX11_fault 4 k9_47 u9_47 = true := by decide +kernel
theorem q9_158 : sx_chk z9 ex_mt k9 tX12_next 158 k9_158 u9_158 = true := sx_chk_mk (n0 := 1) rfl q9_158_e (List.forall_mem_cons.mpr ⟨q9_158_0, List.forall_mem_cons.mpr ⟨q9_158_1, List.forall_mem_nil _⟩⟩)
theorem q9_187 : sx_chk z9 ex_mt k9 tX4_putAhead 78 k9_187 u9_187 = true := sx_chk_mk (n0 := 4) rfl q9_187_e (List.forall_mem_cons.mpr ⟨q9_187_0, List.forall_mem_cons.mpr ⟨q9_187_1, List.forall_mem_cons.mpr ⟨q9_187_2, List.forall_mem_nil _⟩⟩⟩)
theorem q9_188 : sx_chk z9 ex_mt k9 tX4_traceBest 244 k9_188 u9_188 = true := sx_chk_mk (n0 := 0) rfl q9_188_e (List.forall_mem_cons.mpr ⟨q9_188_0, List.forall_mem_cons.mpr ⟨q9_188_1, List.forall_mem_cons.mpr ⟨q9_188_2, List.forall_mem_nil _⟩⟩⟩)
theorem q9_191 : sx_chk z9 ex_mt k9 tX0_live 211 k9_191 u9_191 = true := sx_chk_mk (n0 := 2) rfl q9_191_e (List.forall_mem_cons.mpr ⟨q9_191_0, List.forall_mem_cons.mpr ⟨q9_191_1, List.forall_mem_nil _⟩⟩)
theorem q9_217 : sx_chk z9 ex_mt k9 tX12_line 209 k9_217 u9_217 = true := sx_chk_mk (n0 := 1) rfl q9_217_e (List.forall_mem_cons.mpr ⟨q9_217_0, List.forall_mem_cons.mpr ⟨q9_217_1, List.forall_mem_cons.mpr ⟨q9_217_2, List.forall_mem_cons.mpr ⟨q9_217_3, List.forall_mem_cons.mpr ⟨q9_217_4, List.forall_mem_cons.mpr ⟨q9_217_5, List.forall_mem_cons.mpr ⟨q9_217_6, List.forall_mem_cons.mpr ⟨q9_217_7, List.forall_mem_cons.mpr ⟨q9_217_8, List.forall_mem_cons.mpr ⟨q9_217_9, List.forall_mem_cons.mpr ⟨q9_217_10, List.forall_mem_cons.mpr ⟨q9_217_11, List.forall_mem_cons.mpr ⟨q9_217_12, List.forall_mem_nil _⟩⟩⟩⟩⟩⟩⟩⟩⟩⟩⟩⟩⟩)
theorem q9_229 : sx_chk z9 ex_mt k9 tX2_readFrom 169 k9_229 u9_229 = true := sx_chk_mk (n0 := 0) rfl q9_229_e (List.forall_mem_cons.mpr ⟨q9_229_0, List.forall_mem_nil _⟩)
theorem q9_234 : sx_chk z9 ex_mt k9 tX12_chooses 76 k9_234 u9_234 = true := sx_chk_mk (n0 := 5) rfl q9_234_e (List.forall_mem_cons.mpr ⟨q9_234_0, List.forall_mem_cons.mpr ⟨q9_234_1, List.forall_mem_cons.mpr ⟨q9_234_2, List.forall_mem_cons.mpr ⟨q9_234_3, List.forall_mem_cons.mpr ⟨q9_234_4, List.forall_mem_cons.mpr ⟨q9_234_5, List.forall_mem_cons.mpr ⟨q9_234_6, List.forall_mem_cons.mpr ⟨q9_234_7, List.forall_mem_cons.mpr ⟨q9_234_8, List.forall_mem_cons.mpr ⟨q9_234_9, List.forall_mem_cons.mpr ⟨q9_234_10, List.forall_mem_cons.mpr ⟨q9_234_11, List.forall_mem_nil _⟩⟩⟩⟩⟩⟩⟩⟩⟩⟩⟩⟩)
theorem q9_237 : sx_chk z9 ex_mt k9 tX12_log 721 k9_237 u9_237 = true := sx_chk_mk (n0 := 2) rfl q9_237_e (List.forall_mem_cons.mpr ⟨q9_237_0, List.forall_mem_cons.mpr ⟨q9_237_1, List.forall_mem_cons.mpr ⟨q9_237_2, List.forall_mem_nil _⟩⟩⟩)
theorem q9_238 : sx_chk z9 ex_mt k9 tX12_station 3864 k9_238 u9_238 = true := sx_chk_mk (n0 := 0) rfl q9_238_e (List.forall_mem_cons.mpr ⟨q9_238_0, List.forall_mem_nil _⟩)
theorem q9_247 : sx_chk z9 ex_mt k9 tX9_readFrom 299 k9_247 u9_247 = true := sx_chk_mk (n0 := 0) rfl q9_247_e (List.forall_mem_cons.mpr ⟨q9_247_0, List.forall_mem_nil _⟩)
theorem q9_271 : sx_chk z9 ex_mt (k9o [172]) tX12_draws 586 k9_271 u9_271 = true := sx_chk_mk (n0 := 2) rfl q9_271_e (List.forall_mem_cons.mpr ⟨q9_271_0, List.forall_mem_cons.mpr ⟨q9_271_1, List.forall_mem_nil _⟩⟩)
