/-! rows of the hand methods: decodes and links (written by a program) -/
theorem hd_d_nots_17 : decode tX12_nots.1.2.1 17 = .ok (.iaload, 1) := by decide +kernel
theorem hd_d_joins_17 : decode tX12_joins.1.2.1 17 = .ok (.iaload, 1) := by decide +kernel
theorem hd_d_joins_33 : decode tX12_joins.1.2.1 33 = .ok (.iaload, 1) := by decide +kernel
theorem hd_d_joins_64 : decode tX12_joins.1.2.1 64 = .ok (.iaload, 1) := by decide +kernel
theorem hd_d_operand_103 : decode tX12_operand.1.2.1 103 = .ok (.iastore, 1) := by decide +kernel
theorem hd_d_behind_70 : decode tX12_behind.1.2.1 70 = .ok (.iastore, 1) := by decide +kernel
theorem hd_d_code_11 : decode tX12_code.1.2.1 11 = .ok (.iastore, 1) := by decide +kernel
theorem hd_d_code_25 : decode tX12_code.1.2.1 25 = .ok (.iastore, 1) := by decide +kernel
theorem hd_d_code_39 : decode tX12_code.1.2.1 39 = .ok (.iastore, 1) := by decide +kernel
theorem hd_d_sentence_142 : decode tX12_sentence.1.2.1 142 = .ok (.iastore, 1) := by decide +kernel
theorem hd_d_sentence_168 : decode tX12_sentence.1.2.1 168 = .ok (.iaload, 1) := by decide +kernel
theorem hd_d_sentence_169 : decode tX12_sentence.1.2.1 169 = .ok (.iastore, 1) := by decide +kernel
theorem hd_d_image_41 : decode tX12_image.1.2.1 41 = .ok (.iaload, 1) := by decide +kernel
theorem hd_d_image_42 : decode tX12_image.1.2.1 42 = .ok (.iastore, 1) := by decide +kernel
theorem hd_d_restore_50 : decode tX12_restore.1.2.1 50 = .ok (.iaload, 1) := by decide +kernel
theorem hd_d_restore_51 : decode tX12_restore.1.2.1 51 = .ok (.iastore, 1) := by decide +kernel
theorem hd_d_nots_51 : decode tX12_nots.1.2.1 51 = .ok (.goto (-51), 3) := by decide +kernel
theorem hd_d_joins_70 : decode tX12_joins.1.2.1 70 = .ok (.goto (-70), 3) := by decide +kernel
theorem hd_d_nots_48 : decode tX12_nots.1.2.1 48 = .ok (.invokevirtual 395, 3) := by decide +kernel
theorem hd_k_nots_48 : ex_lk ex_mt tX12_nots 48 (.invokevirtual 395) [0, 91, 589917] = true := by decide +kernel
theorem hd_d_joins_67 : decode tX12_joins.1.2.1 67 = .ok (.invokevirtual 395, 3) := by decide +kernel
theorem hd_k_joins_67 : ex_lk ex_mt tX12_joins 67 (.invokevirtual 395) [0, 91, 589917] = true := by decide +kernel
theorem hd_d_operand_140 : decode tX12_operand.1.2.1 140 = .ok (.invokevirtual 395, 3) := by decide +kernel
theorem hd_k_operand_140 : ex_lk ex_mt tX12_operand 140 (.invokevirtual 395) [0, 91, 589917] = true := by decide +kernel
theorem hd_d_operand_209 : decode tX12_operand.1.2.1 209 = .ok (.invokevirtual 395, 3) := by decide +kernel
theorem hd_k_operand_209 : ex_lk ex_mt tX12_operand 209 (.invokevirtual 395) [0, 91, 589917] = true := by decide +kernel
theorem hd_d_behind_1 : decode tX12_behind.1.2.1 1 = .ok (.invokevirtual 426, 3) := by decide +kernel
theorem hd_k_behind_1 : ex_lk ex_mt tX12_behind 1 (.invokevirtual 426) [0, 142, 589913] = true := by decide +kernel
theorem hd_d_behind_42 : decode tX12_behind.1.2.1 42 = .ok (.invokevirtual 433, 3) := by decide +kernel
theorem hd_k_behind_42 : ex_lk ex_mt tX12_behind 42 (.invokevirtual 433) [0, 127, 589921] = true := by decide +kernel
theorem hd_d_behind_95 : decode tX12_behind.1.2.1 95 = .ok (.invokevirtual 433, 3) := by decide +kernel
theorem hd_k_behind_95 : ex_lk ex_mt tX12_behind 95 (.invokevirtual 433) [0, 127, 589921] = true := by decide +kernel
theorem hd_d_sentence_67 : decode tX12_sentence.1.2.1 67 = .ok (.invokevirtual 426, 3) := by decide +kernel
theorem hd_k_sentence_67 : ex_lk ex_mt tX12_sentence 67 (.invokevirtual 426) [0, 142, 589913] = true := by decide +kernel
theorem hd_d_sentence_73 : decode tX12_sentence.1.2.1 73 = .ok (.invokevirtual 433, 3) := by decide +kernel
theorem hd_k_sentence_73 : ex_lk ex_mt tX12_sentence 73 (.invokevirtual 433) [0, 127, 589921] = true := by decide +kernel
theorem hd_d_sentence_109 : decode tX12_sentence.1.2.1 109 = .ok (.invokevirtual 436, 3) := by decide +kernel
theorem hd_k_sentence_109 : ex_lk ex_mt tX12_sentence 109 (.invokevirtual 436) [0, 77, 589925] = true := by decide +kernel
theorem hd_d_sentence_119 : decode tX12_sentence.1.2.1 119 = .ok (.invokevirtual 439, 3) := by decide +kernel
theorem hd_k_sentence_119 : ex_lk ex_mt tX12_sentence 119 (.invokevirtual 439) [0, 146, 589931] = true := by decide +kernel
def hd_mS : Nat := 8452712498170643941637436558664265704301557216577944354047371344426782440907597751590676094202515006314790319892114058862117610900019773833596086337155035606340794214439522212433393543415092713564459312080184455861702810109907348423431429257490093004309657501131606065152
def hd_mC : Nat := 181709681073902368199800473699148547568203340924798097496820757101038029693188615993453266888739548801528950436024403459176643594027008
