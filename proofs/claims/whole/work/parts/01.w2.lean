theorem kM_X5_187 : Cond.methodLink RX5 187 yX5_give ∈ wb := wb_t3 197 (by decide +kernel) rfl
theorem kI_X5_give : Cond.instanceMethod yX5_give ∈ wb := wb_t3 199 (by decide +kernel) rfl
theorem kM_X5_116 : Cond.methodLink RX5 116 yX5_lengthOf ∈ wb := wb_t3 201 (by decide +kernel) rfl
theorem kI_X5_lengthOf : Cond.instanceMethod yX5_lengthOf ∈ wb := wb_t3 203 (by decide +kernel) rfl
theorem kM_X5_101 : Cond.methodLink RX5 101 yX5_rightOf ∈ wb := wb_t3 205 (by decide +kernel) rfl
theorem kZ_X5_rightOf : Cond.static yX5_rightOf ∈ wb := wb_t3 206 (by decide +kernel) rfl
theorem kM_X5_202 : Cond.methodLink RX5 202 yX5_take ∈ wb := wb_t3 208 (by decide +kernel) rfl
theorem kI_X5_take : Cond.instanceMethod yX5_take ∈ wb := wb_t3 210 (by decide +kernel) rfl
theorem kM_X5_206 : Cond.methodLink RX5 206 yX5_ask ∈ wb := wb_t3 212 (by decide +kernel) rfl
theorem kI_X5_ask : Cond.instanceMethod yX5_ask ∈ wb := wb_t3 214 (by decide +kernel) rfl
theorem kM_X5_175 : Cond.methodLink RX5 175 yX5_writeSegment ∈ wb := wb_t3 216 (by decide +kernel) rfl
theorem kI_X5_writeSegment : Cond.instanceMethod yX5_writeSegment ∈ wb := wb_t3 218 (by decide +kernel) rfl
theorem kK_X5_172 : Cond.constant RX5 172 (84148225) ∈ wb := wb_t3 220 (by decide +kernel) rfl
theorem kM_X5_152 : Cond.methodLink RX5 152 yX5_abort ∈ wb := wb_t3 221 (by decide +kernel) rfl
theorem kI_X5_abort : Cond.instanceMethod yX5_abort ∈ wb := wb_t3 223 (by decide +kernel) rfl
theorem kQ_X5_126 : Cond.constantLong RX5 126 (65535) ∈ wb := wb_t3 225 (by decide +kernel) rfl
theorem kM_X5_131 : Cond.methodLink RX5 131 yX5_answer ∈ wb := wb_t3 226 (by decide +kernel) rfl
theorem kI_X5_answer : Cond.instanceMethod yX5_answer ∈ wb := wb_t3 228 (by decide +kernel) rfl
theorem kK_X5_173 : Cond.constant RX5 173 (84082688) ∈ wb := wb_t3 230 (by decide +kernel) rfl
theorem kK_X5_162 : Cond.constant RX5 162 (101122066) ∈ wb := wb_t3 231 (by decide +kernel) rfl
theorem kK_X5_163 : Cond.constant RX5 163 (101122067) ∈ wb := wb_t3 232 (by decide +kernel) rfl
theorem kM_X5_168 : Cond.methodLink RX5 168 yX5_store ∈ wb := wb_t3 233 (by decide +kernel) rfl
theorem kI_X5_store : Cond.instanceMethod yX5_store ∈ wb := wb_t3 235 (by decide +kernel) rfl
theorem kM_X5_145 : Cond.methodLink RX5 145 yX5_storing ∈ wb := wb_t3 237 (by decide +kernel) rfl
theorem kI_X5_storing : Cond.instanceMethod yX5_storing ∈ wb := wb_t3 239 (by decide +kernel) rfl
theorem kK_X5_140 : Cond.constant RX5 140 (101253168) ∈ wb := wb_t4 1 (by decide +kernel) rfl
theorem kK_X5_141 : Cond.constant RX5 141 (134217762) ∈ wb := wb_t4 2 (by decide +kernel) rfl
theorem kK_X5_142 : Cond.constant RX5 142 (100728832) ∈ wb := wb_t4 3 (by decide +kernel) rfl
theorem kK_X5_143 : Cond.constant RX5 143 (100925505) ∈ wb := wb_t4 4 (by decide +kernel) rfl
theorem kK_X5_144 : Cond.constant RX5 144 (100925506) ∈ wb := wb_t4 5 (by decide +kernel) rfl
theorem kM_X5_178 : Cond.methodLink RX5 178 yX5_write ∈ wb := wb_t4 6 (by decide +kernel) rfl
theorem kI_X5_write : Cond.instanceMethod yX5_write ∈ wb := wb_t4 8 (by decide +kernel) rfl
theorem kM_X5_156 : Cond.methodLink RX5 156 yX5_find ∈ wb := wb_t4 10 (by decide +kernel) rfl
theorem kI_X5_find : Cond.instanceMethod yX5_find ∈ wb := wb_t4 12 (by decide +kernel) rfl
theorem kK_X5_159 : Cond.constant RX5 159 (100794368) ∈ wb := wb_t4 14 (by decide +kernel) rfl
theorem kK_X5_160 : Cond.constant RX5 160 (101253137) ∈ wb := wb_t4 15 (by decide +kernel) rfl
theorem kK_X5_161 : Cond.constant RX5 161 (100728834) ∈ wb := wb_t4 16 (by decide +kernel) rfl
theorem kM_X5_164 : Cond.methodLink RX5 164 yX5_begin ∈ wb := wb_t4 17 (by decide +kernel) rfl
theorem kI_X5_begin : Cond.instanceMethod yX5_begin ∈ wb := wb_t4 19 (by decide +kernel) rfl
theorem kM_X5_181 : Cond.methodLink RX5 181 yX5_read ∈ wb := wb_t4 21 (by decide +kernel) rfl
theorem kI_X5_read : Cond.instanceMethod yX5_read ∈ wb := wb_t4 23 (by decide +kernel) rfl
theorem kK_X5_174 : Cond.constant RX5 174 (100728833) ∈ wb := wb_t4 25 (by decide +kernel) rfl
theorem kM_X5_184 : Cond.methodLink RX5 184 yX5_readSegment ∈ wb := wb_t4 26 (by decide +kernel) rfl
theorem kI_X5_readSegment : Cond.instanceMethod yX5_readSegment ∈ wb := wb_t4 28 (by decide +kernel) rfl
theorem kM_X5_210 : Cond.methodLink RX5 210 yX5_end ∈ wb := wb_t4 30 (by decide +kernel) rfl
theorem kI_X5_end : Cond.instanceMethod yX5_end ∈ wb := wb_t4 32 (by decide +kernel) rfl
theorem kM_L_53 : Cond.methodLink RL 53 yX5_tick ∈ wb := wb_t4 34 (by decide +kernel) rfl
theorem kI_X5_tick : Cond.instanceMethod yX5_tick ∈ wb := wb_t4 35 (by decide +kernel) rfl
theorem kS_X5_tick : Cond.selects RX5 yX5_tick yX5_tick ∈ wb := wb_t4 36 (by decide +kernel) rfl
theorem kK_X5_213 : Cond.constant RX5 213 (84148224) ∈ wb := wb_t4 38 (by decide +kernel) rfl
theorem kM_L_56 : Cond.methodLink RL 56 yX5_set ∈ wb := wb_t4 39 (by decide +kernel) rfl
theorem kI_X5_set : Cond.instanceMethod yX5_set ∈ wb := wb_t4 40 (by decide +kernel) rfl
theorem kS_X5_set : Cond.selects RX5 yX5_set yX5_set ∈ wb := wb_t4 41 (by decide +kernel) rfl
theorem kM_L_60 : Cond.methodLink RL 60 yX5_value ∈ wb := wb_t4 43 (by decide +kernel) rfl
theorem kI_X5_value : Cond.instanceMethod yX5_value ∈ wb := wb_t4 44 (by decide +kernel) rfl
theorem kS_X5_value : Cond.selects RX5 yX5_value yX5_value ∈ wb := wb_t4 45 (by decide +kernel) rfl
theorem kM_L_64 : Cond.methodLink RL 64 yX5_size ∈ wb := wb_t4 47 (by decide +kernel) rfl
theorem kI_X5_size : Cond.instanceMethod yX5_size ∈ wb := wb_t4 48 (by decide +kernel) rfl
theorem kS_X5_size : Cond.selects RX5 yX5_size yX5_size ∈ wb := wb_t4 49 (by decide +kernel) rfl
theorem kM_L_68 : Cond.methodLink RL 68 yX5_state ∈ wb := wb_t4 51 (by decide +kernel) rfl
theorem kI_X5_state : Cond.instanceMethod yX5_state ∈ wb := wb_t4 52 (by decide +kernel) rfl
theorem kS_X5_state : Cond.selects RX5 yX5_state yX5_state ∈ wb := wb_t4 53 (by decide +kernel) rfl
theorem kM_L_73 : Cond.methodLink RL 73 yX5_busy ∈ wb := wb_t4 55 (by decide +kernel) rfl
theorem kI_X5_busy : Cond.instanceMethod yX5_busy ∈ wb := wb_t4 56 (by decide +kernel) rfl
theorem kS_X5_busy : Cond.selects RX5 yX5_busy yX5_busy ∈ wb := wb_t4 57 (by decide +kernel) rfl
theorem kM_L_77 : Cond.methodLink RL 77 yX5_outs ∈ wb := wb_t4 59 (by decide +kernel) rfl
theorem kI_X5_outs : Cond.instanceMethod yX5_outs ∈ wb := wb_t4 60 (by decide +kernel) rfl
theorem kS_X5_outs : Cond.selects RX5 yX5_outs yX5_outs ∈ wb := wb_t4 61 (by decide +kernel) rfl
theorem kM_L_81 : Cond.methodLink RL 81 yX5_out ∈ wb := wb_t4 63 (by decide +kernel) rfl
theorem kI_X5_out : Cond.instanceMethod yX5_out ∈ wb := wb_t4 64 (by decide +kernel) rfl
theorem kS_X5_out : Cond.selects RX5 yX5_out yX5_out ∈ wb := wb_t4 65 (by decide +kernel) rfl
theorem kM_L_85 : Cond.methodLink RL 85 yX5_flush ∈ wb := wb_t4 67 (by decide +kernel) rfl
theorem kI_X5_flush : Cond.instanceMethod yX5_flush ∈ wb := wb_t4 68 (by decide +kernel) rfl
theorem kS_X5_flush : Cond.selects RX5 yX5_flush yX5_flush ∈ wb := wb_t4 69 (by decide +kernel) rfl
theorem kS_X4_boot : Cond.selects RX4 yX4_boot yX4_boot ∈ wb := wb_s 0 (by decide +kernel) rfl
theorem kS_X4_beat : Cond.selects RX4 yX4_beat yX4_beat ∈ wb := wb_s 1 (by decide +kernel) rfl
theorem kS_X4_abort : Cond.selects RX4 yX4_abort yX4_abort ∈ wb := wb_s 2 (by decide +kernel) rfl
theorem kS_X4_answer : Cond.selects RX4 yX4_answer yX4_answer ∈ wb := wb_s 3 (by decide +kernel) rfl
theorem kS_X4_command : Cond.selects RX4 yX4_command yX4_command ∈ wb := wb_s 5 (by decide +kernel) rfl
theorem kS_X4_run : Cond.selects RX4 yX4_run yX4_run ∈ wb := wb_s 6 (by decide +kernel) rfl
theorem kS_X1_target : Cond.selects RX1 yX1_target yX1_target ∈ wb := wb_s 7 (by decide +kernel) rfl
theorem kS_X4_sync : Cond.selects RX4 yX4_sync yX4_sync ∈ wb := wb_s 8 (by decide +kernel) rfl
theorem kS_X4_giveIfNew : Cond.selects RX4 yX4_giveIfNew yX4_giveIfNew ∈ wb := wb_s 9 (by decide +kernel) rfl
theorem kS_X4_give : Cond.selects RX4 yX4_give yX4_give ∈ wb := wb_s 10 (by decide +kernel) rfl
theorem kS_X4_take : Cond.selects RX4 yX4_take yX4_take ∈ wb := wb_s 11 (by decide +kernel) rfl
theorem kS_X4_request : Cond.selects RX4 yX4_request yX4_request ∈ wb := wb_s 12 (by decide +kernel) rfl
theorem kS_X4_writeSegment : Cond.selects RX4 yX4_writeSegment yX4_writeSegment ∈ wb := wb_s 13 (by decide +kernel) rfl
theorem kS_X4_segmentFault : Cond.selects RX4 yX4_segmentFault yX4_segmentFault ∈ wb := wb_s 14 (by decide +kernel) rfl
theorem kS_X4_storeFault : Cond.selects RX4 yX4_storeFault yX4_storeFault ∈ wb := wb_s 15 (by decide +kernel) rfl
theorem kS_X4_store : Cond.selects RX4 yX4_store yX4_store ∈ wb := wb_s 16 (by decide +kernel) rfl
theorem kS_X4_write : Cond.selects RX4 yX4_write yX4_write ∈ wb := wb_s 17 (by decide +kernel) rfl
theorem kS_X4_entryAt : Cond.selects RX4 yX4_entryAt yX4_entryAt ∈ wb := wb_s 18 (by decide +kernel) rfl
theorem kS_X4_accessFault : Cond.selects RX4 yX4_accessFault yX4_accessFault ∈ wb := wb_s 19 (by decide +kernel) rfl
theorem kS_X4_read : Cond.selects RX4 yX4_read yX4_read ∈ wb := wb_s 20 (by decide +kernel) rfl
theorem kS_X4_readSegment : Cond.selects RX4 yX4_readSegment yX4_readSegment ∈ wb := wb_s 21 (by decide +kernel) rfl
theorem kS_X4_giveWhenChanged : Cond.selects RX4 yX4_giveWhenChanged yX4_giveWhenChanged ∈ wb := wb_s 22 (by decide +kernel) rfl
theorem kS_X5_add : Cond.selects RX5 yX5_add yX5_add ∈ wb := wb_s 23 (by decide +kernel) rfl
theorem kS_X5_addMap : Cond.selects RX5 yX5_addMap yX5_addMap ∈ wb := wb_s 24 (by decide +kernel) rfl
theorem kS_X5_reset : Cond.selects RX5 yX5_reset yX5_reset ∈ wb := wb_s 25 (by decide +kernel) rfl
theorem kS_X5_boot : Cond.selects RX5 yX5_boot yX5_boot ∈ wb := wb_s 26 (by decide +kernel) rfl
theorem kS_X5_send : Cond.selects RX5 yX5_send yX5_send ∈ wb := wb_s 27 (by decide +kernel) rfl
theorem kS_X5_command : Cond.selects RX5 yX5_command yX5_command ∈ wb := wb_s 28 (by decide +kernel) rfl
theorem kS_X5_content : Cond.selects RX5 yX5_content yX5_content ∈ wb := wb_s 29 (by decide +kernel) rfl
theorem kS_X5_number : Cond.selects RX5 yX5_number yX5_number ∈ wb := wb_s 30 (by decide +kernel) rfl
theorem kS_X5_named : Cond.selects RX5 yX5_named yX5_named ∈ wb := wb_s 31 (by decide +kernel) rfl
theorem kS_X5_sync : Cond.selects RX5 yX5_sync yX5_sync ∈ wb := wb_s 32 (by decide +kernel) rfl
theorem kS_X5_give : Cond.selects RX5 yX5_give yX5_give ∈ wb := wb_s 33 (by decide +kernel) rfl
theorem kS_X5_lengthOf : Cond.selects RX5 yX5_lengthOf yX5_lengthOf ∈ wb := wb_s 34 (by decide +kernel) rfl
theorem kS_X5_take : Cond.selects RX5 yX5_take yX5_take ∈ wb := wb_s 35 (by decide +kernel) rfl
theorem kS_X5_ask : Cond.selects RX5 yX5_ask yX5_ask ∈ wb := wb_s 36 (by decide +kernel) rfl
theorem kS_X5_writeSegment : Cond.selects RX5 yX5_writeSegment yX5_writeSegment ∈ wb := wb_s 37 (by decide +kernel) rfl
theorem kS_X5_abort : Cond.selects RX5 yX5_abort yX5_abort ∈ wb := wb_s 38 (by decide +kernel) rfl
theorem kS_X5_answer : Cond.selects RX5 yX5_answer yX5_answer ∈ wb := wb_s 39 (by decide +kernel) rfl
theorem kS_X5_store : Cond.selects RX5 yX5_store yX5_store ∈ wb := wb_s 40 (by decide +kernel) rfl
theorem kS_X5_storing : Cond.selects RX5 yX5_storing yX5_storing ∈ wb := wb_s 41 (by decide +kernel) rfl
theorem kS_X5_write : Cond.selects RX5 yX5_write yX5_write ∈ wb := wb_s 42 (by decide +kernel) rfl
theorem kS_X5_find : Cond.selects RX5 yX5_find yX5_find ∈ wb := wb_s 43 (by decide +kernel) rfl
theorem kS_X5_begin : Cond.selects RX5 yX5_begin yX5_begin ∈ wb := wb_s 44 (by decide +kernel) rfl
theorem kS_X5_read : Cond.selects RX5 yX5_read yX5_read ∈ wb := wb_s 45 (by decide +kernel) rfl
theorem kS_X5_readSegment : Cond.selects RX5 yX5_readSegment yX5_readSegment ∈ wb := wb_s 46 (by decide +kernel) rfl
theorem kS_X5_end : Cond.selects RX5 yX5_end yX5_end ∈ wb := wb_s 47 (by decide +kernel) rfl
/-! the words that cross a nest: carried beside -/
def nwL : List Cond := [Cond.methodLinkNest RX4 43 yX2_init "MappedBusNode", Cond.fieldLinkNest RX4 121 "MappedBusNode$Outbox" "kept" "I" "MappedBusNode", Cond.fieldLinkNest RX4 61 "MappedBusNode$Outbox" "sent" "I" "MappedBusNode", Cond.methodLinkNest RX4 50 yX3_init "MappedBusNode", Cond.fieldLinkNest RX4 278 "MappedBusNode$Transfer" "bytes" "[I" "MappedBusNode", Cond.fieldLinkNest RX4 91 "MappedBusNode$Transfer" "going" "Z" "MappedBusNode", Cond.fieldLinkNest RX4 257 "MappedBusNode$Transfer" "writing" "Z" "MappedBusNode", Cond.fieldLinkNest RX4 235 "MappedBusNode$Transfer" "entry" "I" "MappedBusNode", Cond.fieldLinkNest RX4 98 "MappedBusNode$Transfer" "address" "I" "MappedBusNode", Cond.fieldLinkNest RX4 241 "MappedBusNode$Transfer" "done" "I" "MappedBusNode", Cond.fieldLinkNest RX4 260 "MappedBusNode$Transfer" "turn" "I" "MappedBusNode", Cond.fieldLinkNest RX4 95 "MappedBusNode$Transfer" "ticks" "I" "MappedBusNode"]
theorem nwL_in : ∀ w ∈ nwL, w ∈ tables_1 := by decide +kernel
theorem kT_X4_43 : Cond.methodLinkNest RX4 43 yX2_init "MappedBusNode" ∈ nwL := List.mem_of_getElem? (i := 0) rfl
theorem kT_X4_121 : Cond.fieldLinkNest RX4 121 "MappedBusNode$Outbox" "kept" "I" "MappedBusNode" ∈ nwL := List.mem_of_getElem? (i := 1) rfl
theorem kT_X4_61 : Cond.fieldLinkNest RX4 61 "MappedBusNode$Outbox" "sent" "I" "MappedBusNode" ∈ nwL := List.mem_of_getElem? (i := 2) rfl
theorem kT_X4_50 : Cond.methodLinkNest RX4 50 yX3_init "MappedBusNode" ∈ nwL := List.mem_of_getElem? (i := 3) rfl
theorem kT_X4_278 : Cond.fieldLinkNest RX4 278 "MappedBusNode$Transfer" "bytes" "[I" "MappedBusNode" ∈ nwL := List.mem_of_getElem? (i := 4) rfl
theorem kT_X4_91 : Cond.fieldLinkNest RX4 91 "MappedBusNode$Transfer" "going" "Z" "MappedBusNode" ∈ nwL := List.mem_of_getElem? (i := 5) rfl
theorem kT_X4_257 : Cond.fieldLinkNest RX4 257 "MappedBusNode$Transfer" "writing" "Z" "MappedBusNode" ∈ nwL := List.mem_of_getElem? (i := 6) rfl
theorem kT_X4_235 : Cond.fieldLinkNest RX4 235 "MappedBusNode$Transfer" "entry" "I" "MappedBusNode" ∈ nwL := List.mem_of_getElem? (i := 7) rfl
theorem kT_X4_98 : Cond.fieldLinkNest RX4 98 "MappedBusNode$Transfer" "address" "I" "MappedBusNode" ∈ nwL := List.mem_of_getElem? (i := 8) rfl
theorem kT_X4_241 : Cond.fieldLinkNest RX4 241 "MappedBusNode$Transfer" "done" "I" "MappedBusNode" ∈ nwL := List.mem_of_getElem? (i := 9) rfl
theorem kT_X4_260 : Cond.fieldLinkNest RX4 260 "MappedBusNode$Transfer" "turn" "I" "MappedBusNode" ∈ nwL := List.mem_of_getElem? (i := 10) rfl
theorem kT_X4_95 : Cond.fieldLinkNest RX4 95 "MappedBusNode$Transfer" "ticks" "I" "MappedBusNode" ∈ nwL := List.mem_of_getElem? (i := 11) rfl
