theorem dX1_init_0 : decode cX1_init 0 = .ok (.aload_n 0, 1) := by decide +kernel
theorem dX1_init_1 : decode cX1_init 1 = .ok (.invokespecial 3, 3) := by decide +kernel
theorem dX1_init_4 : decode cX1_init 4 = .ok (.aload_n 0, 1) := by decide +kernel
theorem dX1_init_5 : decode cX1_init 5 = .ok (.aload_n 1, 1) := by decide +kernel
theorem dX1_init_6 : decode cX1_init 6 = .ok (.putfield 9, 3) := by decide +kernel
theorem dX1_init_9 : decode cX1_init 9 = .ok (.aload_n 0, 1) := by decide +kernel
theorem dX1_init_10 : decode cX1_init 10 = .ok (.iload_n 2, 1) := by decide +kernel
theorem dX1_init_11 : decode cX1_init 11 = .ok (.putfield 15, 3) := by decide +kernel
theorem dX1_init_14 : decode cX1_init 14 = .ok (.aload_n 0, 1) := by decide +kernel
theorem dX1_init_15 : decode cX1_init 15 = .ok (.iload_n 3, 1) := by decide +kernel
theorem dX1_init_16 : decode cX1_init 16 = .ok (.iconst 4, 1) := by decide +kernel
theorem dX1_init_17 : decode cX1_init 17 = .ok (.ior, 1) := by decide +kernel
theorem dX1_init_18 : decode cX1_init 18 = .ok (.putfield 21, 3) := by decide +kernel
theorem dX1_init_21 : decode cX1_init 21 = .ok (.return_, 1) := by decide +kernel
theorem dX1_content_0 : decode cX1_content 0 = .ok (.aload_n 0, 1) := by decide +kernel
theorem dX1_content_1 : decode cX1_content 1 = .ok (.invokevirtual 50, 3) := by decide +kernel
theorem dX1_content_4 : decode cX1_content 4 = .ok (.istore_n 1, 1) := by decide +kernel
theorem dX1_content_5 : decode cX1_content 5 = .ok (.lconst 0, 1) := by decide +kernel
theorem dX1_content_6 : decode cX1_content 6 = .ok (.lstore_n 2, 1) := by decide +kernel
theorem dX1_content_7 : decode cX1_content 7 = .ok (.iconst 0, 1) := by decide +kernel
theorem dX1_content_8 : decode cX1_content 8 = .ok (.istore 4, 2) := by decide +kernel
theorem dX1_content_10 : decode cX1_content 10 = .ok (.iconst 1, 1) := by decide +kernel
theorem dX1_content_11 : decode cX1_content 11 = .ok (.istore 5, 2) := by decide +kernel
theorem dX1_content_13 : decode cX1_content 13 = .ok (.iload 5, 2) := by decide +kernel
theorem dX1_content_15 : decode cX1_content 15 = .ok (.iload_n 1, 1) := by decide +kernel
theorem dX1_content_16 : decode cX1_content 16 = .ok (.if_icmp .gt 58, 3) := by decide +kernel
theorem dX1_content_19 : decode cX1_content 19 = .ok (.aload_n 0, 1) := by decide +kernel
theorem dX1_content_20 : decode cX1_content 20 = .ok (.iload 5, 2) := by decide +kernel
theorem dX1_content_22 : decode cX1_content 22 = .ok (.invokevirtual 41, 3) := by decide +kernel
theorem dX1_content_25 : decode cX1_content 25 = .ok (.istore 6, 2) := by decide +kernel
theorem dX1_content_27 : decode cX1_content 27 = .ok (.iload 6, 2) := by decide +kernel
theorem dX1_content_29 : decode cX1_content 29 = .ok (.iconst (-1), 1) := by decide +kernel
theorem dX1_content_30 : decode cX1_content 30 = .ok (.if_icmp .eq 38, 3) := by decide +kernel
theorem dX1_content_33 : decode cX1_content 33 = .ok (.iload 6, 2) := by decide +kernel
theorem dX1_content_35 : decode cX1_content 35 = .ok (.invokestatic 46, 3) := by decide +kernel
theorem dX1_content_38 : decode cX1_content 38 = .ok (.istore 7, 2) := by decide +kernel
theorem dX1_content_40 : decode cX1_content 40 = .ok (.lload_n 2, 1) := by decide +kernel
theorem dX1_content_41 : decode cX1_content 41 = .ok (.aload_n 0, 1) := by decide +kernel
theorem dX1_content_42 : decode cX1_content 42 = .ok (.getfield 9, 3) := by decide +kernel
theorem dX1_content_45 : decode cX1_content 45 = .ok (.iload 6, 2) := by decide +kernel
theorem dX1_content_47 : decode cX1_content 47 = .ok (.iconst 0, 1) := by decide +kernel
theorem dX1_content_48 : decode cX1_content 48 = .ok (.iload 7, 2) := by decide +kernel
theorem dX1_content_50 : decode cX1_content 50 = .ok (.invokevirtual 33, 3) := by decide +kernel
theorem dX1_content_53 : decode cX1_content 53 = .ok (.bipush 8, 2) := by decide +kernel
theorem dX1_content_55 : decode cX1_content 55 = .ok (.iload 4, 2) := by decide +kernel
theorem dX1_content_57 : decode cX1_content 57 = .ok (.imul, 1) := by decide +kernel
theorem dX1_content_58 : decode cX1_content 58 = .ok (.lshl, 1) := by decide +kernel
theorem dX1_content_59 : decode cX1_content 59 = .ok (.lor, 1) := by decide +kernel
theorem dX1_content_60 : decode cX1_content 60 = .ok (.lstore_n 2, 1) := by decide +kernel
theorem dX1_content_61 : decode cX1_content 61 = .ok (.iload 4, 2) := by decide +kernel
theorem dX1_content_63 : decode cX1_content 63 = .ok (.iload 7, 2) := by decide +kernel
theorem dX1_content_65 : decode cX1_content 65 = .ok (.iadd, 1) := by decide +kernel
theorem dX1_content_66 : decode cX1_content 66 = .ok (.istore 4, 2) := by decide +kernel
theorem dX1_content_68 : decode cX1_content 68 = .ok (.iinc 5 1, 3) := by decide +kernel
theorem dX1_content_71 : decode cX1_content 71 = .ok (.goto (-58), 3) := by decide +kernel
theorem dX1_content_74 : decode cX1_content 74 = .ok (.lload_n 2, 1) := by decide +kernel
theorem dX1_content_75 : decode cX1_content 75 = .ok (.lreturn, 1) := by decide +kernel
theorem dX1_count_0 : decode cX1_count 0 = .ok (.iconst 4, 1) := by decide +kernel
theorem dX1_count_1 : decode cX1_count 1 = .ok (.aload_n 0, 1) := by decide +kernel
theorem dX1_count_2 : decode cX1_count 2 = .ok (.getfield 9, 3) := by decide +kernel
theorem dX1_count_5 : decode cX1_count 5 = .ok (.aload_n 0, 1) := by decide +kernel
theorem dX1_count_6 : decode cX1_count 6 = .ok (.getfield 15, 3) := by decide +kernel
theorem dX1_count_9 : decode cX1_count 9 = .ok (.iconst 0, 1) := by decide +kernel
theorem dX1_count_10 : decode cX1_count 10 = .ok (.invokevirtual 24, 3) := by decide +kernel
theorem dX1_count_13 : decode cX1_count 13 = .ok (.invokestatic 28, 3) := by decide +kernel
theorem dX1_count_16 : decode cX1_count 16 = .ok (.ireturn, 1) := by decide +kernel
theorem dX1_target_0 : decode cX1_target 0 = .ok (.aload_n 0, 1) := by decide +kernel
theorem dX1_target_1 : decode cX1_target 1 = .ok (.getfield 9, 3) := by decide +kernel
theorem dX1_target_4 : decode cX1_target 4 = .ok (.aload_n 0, 1) := by decide +kernel
theorem dX1_target_5 : decode cX1_target 5 = .ok (.getfield 9, 3) := by decide +kernel
theorem dX1_target_8 : decode cX1_target 8 = .ok (.aload_n 0, 1) := by decide +kernel
theorem dX1_target_9 : decode cX1_target 9 = .ok (.getfield 15, 3) := by decide +kernel
theorem dX1_target_12 : decode cX1_target 12 = .ok (.iload_n 1, 1) := by decide +kernel
theorem dX1_target_13 : decode cX1_target 13 = .ok (.iadd, 1) := by decide +kernel
theorem dX1_target_14 : decode cX1_target 14 = .ok (.iconst 0, 1) := by decide +kernel
theorem dX1_target_15 : decode cX1_target 15 = .ok (.iconst 4, 1) := by decide +kernel
theorem dX1_target_16 : decode cX1_target 16 = .ok (.invokevirtual 33, 3) := by decide +kernel
theorem dX1_target_19 : decode cX1_target 19 = .ok (.l2i, 1) := by decide +kernel
theorem dX1_target_20 : decode cX1_target 20 = .ok (.aload_n 0, 1) := by decide +kernel
theorem dX1_target_21 : decode cX1_target 21 = .ok (.getfield 21, 3) := by decide +kernel
theorem dX1_target_24 : decode cX1_target 24 = .ok (.invokevirtual 37, 3) := by decide +kernel
theorem dX1_target_27 : decode cX1_target 27 = .ok (.ireturn, 1) := by decide +kernel
theorem dX1_contentLength_0 : decode cX1_contentLength 0 = .ok (.aload_n 0, 1) := by decide +kernel
theorem dX1_contentLength_1 : decode cX1_contentLength 1 = .ok (.invokevirtual 50, 3) := by decide +kernel
theorem dX1_contentLength_4 : decode cX1_contentLength 4 = .ok (.istore_n 1, 1) := by decide +kernel
theorem dX1_contentLength_5 : decode cX1_contentLength 5 = .ok (.iconst 0, 1) := by decide +kernel
theorem dX1_contentLength_6 : decode cX1_contentLength 6 = .ok (.istore_n 2, 1) := by decide +kernel
theorem dX1_contentLength_7 : decode cX1_contentLength 7 = .ok (.iconst 1, 1) := by decide +kernel
theorem dX1_contentLength_8 : decode cX1_contentLength 8 = .ok (.istore_n 3, 1) := by decide +kernel
theorem dX1_contentLength_9 : decode cX1_contentLength 9 = .ok (.iload_n 3, 1) := by decide +kernel
theorem dX1_contentLength_10 : decode cX1_contentLength 10 = .ok (.iload_n 1, 1) := by decide +kernel
theorem dX1_contentLength_11 : decode cX1_contentLength 11 = .ok (.if_icmp .gt 30, 3) := by decide +kernel
theorem dX1_contentLength_14 : decode cX1_contentLength 14 = .ok (.aload_n 0, 1) := by decide +kernel
theorem dX1_contentLength_15 : decode cX1_contentLength 15 = .ok (.iload_n 3, 1) := by decide +kernel
theorem dX1_contentLength_16 : decode cX1_contentLength 16 = .ok (.invokevirtual 41, 3) := by decide +kernel
theorem dX1_contentLength_19 : decode cX1_contentLength 19 = .ok (.istore 4, 2) := by decide +kernel
theorem dX1_contentLength_21 : decode cX1_contentLength 21 = .ok (.iload 4, 2) := by decide +kernel
theorem dX1_contentLength_23 : decode cX1_contentLength 23 = .ok (.iconst (-1), 1) := by decide +kernel
theorem dX1_contentLength_24 : decode cX1_contentLength 24 = .ok (.if_icmp .eq 11, 3) := by decide +kernel
theorem dX1_contentLength_27 : decode cX1_contentLength 27 = .ok (.iload_n 2, 1) := by decide +kernel
theorem dX1_contentLength_28 : decode cX1_contentLength 28 = .ok (.iload 4, 2) := by decide +kernel
theorem dX1_contentLength_30 : decode cX1_contentLength 30 = .ok (.invokestatic 46, 3) := by decide +kernel
theorem dX1_contentLength_33 : decode cX1_contentLength 33 = .ok (.iadd, 1) := by decide +kernel
theorem dX1_contentLength_34 : decode cX1_contentLength 34 = .ok (.istore_n 2, 1) := by decide +kernel
theorem dX1_contentLength_35 : decode cX1_contentLength 35 = .ok (.iinc 3 1, 3) := by decide +kernel
theorem dX1_contentLength_38 : decode cX1_contentLength 38 = .ok (.goto (-29), 3) := by decide +kernel
theorem dX1_contentLength_41 : decode cX1_contentLength 41 = .ok (.iload_n 2, 1) := by decide +kernel
theorem dX1_contentLength_42 : decode cX1_contentLength 42 = .ok (.ireturn, 1) := by decide +kernel
theorem dX1_spread_0 : decode cX1_spread 0 = .ok (.aload_n 0, 1) := by decide +kernel
theorem dX1_spread_1 : decode cX1_spread 1 = .ok (.invokevirtual 50, 3) := by decide +kernel
theorem dX1_spread_4 : decode cX1_spread 4 = .ok (.istore_n 3, 1) := by decide +kernel
theorem dX1_spread_5 : decode cX1_spread 5 = .ok (.iconst 0, 1) := by decide +kernel
theorem dX1_spread_6 : decode cX1_spread 6 = .ok (.istore 4, 2) := by decide +kernel
theorem dX1_spread_8 : decode cX1_spread 8 = .ok (.iconst 1, 1) := by decide +kernel
theorem dX1_spread_9 : decode cX1_spread 9 = .ok (.istore 5, 2) := by decide +kernel
theorem dX1_spread_11 : decode cX1_spread 11 = .ok (.iload 5, 2) := by decide +kernel
theorem dX1_spread_13 : decode cX1_spread 13 = .ok (.iload_n 3, 1) := by decide +kernel
theorem dX1_spread_14 : decode cX1_spread 14 = .ok (.if_icmp .gt 49, 3) := by decide +kernel
theorem dX1_spread_17 : decode cX1_spread 17 = .ok (.aload_n 0, 1) := by decide +kernel
theorem dX1_spread_18 : decode cX1_spread 18 = .ok (.iload 5, 2) := by decide +kernel
theorem dX1_spread_20 : decode cX1_spread 20 = .ok (.invokevirtual 41, 3) := by decide +kernel
theorem dX1_spread_23 : decode cX1_spread 23 = .ok (.istore 6, 2) := by decide +kernel
theorem dX1_spread_25 : decode cX1_spread 25 = .ok (.iload 6, 2) := by decide +kernel
theorem dX1_spread_27 : decode cX1_spread 27 = .ok (.iconst (-1), 1) := by decide +kernel
theorem dX1_spread_28 : decode cX1_spread 28 = .ok (.if_icmp .eq 29, 3) := by decide +kernel
theorem dX1_spread_31 : decode cX1_spread 31 = .ok (.aload_n 0, 1) := by decide +kernel
theorem dX1_spread_32 : decode cX1_spread 32 = .ok (.getfield 9, 3) := by decide +kernel
theorem dX1_spread_35 : decode cX1_spread 35 = .ok (.iload 6, 2) := by decide +kernel
theorem dX1_spread_37 : decode cX1_spread 37 = .ok (.lload_n 1, 1) := by decide +kernel
theorem dX1_spread_38 : decode cX1_spread 38 = .ok (.bipush 8, 2) := by decide +kernel
theorem dX1_spread_40 : decode cX1_spread 40 = .ok (.iload 4, 2) := by decide +kernel
theorem dX1_spread_42 : decode cX1_spread 42 = .ok (.imul, 1) := by decide +kernel
theorem dX1_spread_43 : decode cX1_spread 43 = .ok (.lushr, 1) := by decide +kernel
theorem dX1_spread_44 : decode cX1_spread 44 = .ok (.invokevirtual 55, 3) := by decide +kernel
theorem dX1_spread_47 : decode cX1_spread 47 = .ok (.iload 4, 2) := by decide +kernel
theorem dX1_spread_49 : decode cX1_spread 49 = .ok (.iload 6, 2) := by decide +kernel
theorem dX1_spread_51 : decode cX1_spread 51 = .ok (.invokestatic 46, 3) := by decide +kernel
theorem dX1_spread_54 : decode cX1_spread 54 = .ok (.iadd, 1) := by decide +kernel
theorem dX1_spread_55 : decode cX1_spread 55 = .ok (.istore 4, 2) := by decide +kernel
theorem dX1_spread_57 : decode cX1_spread 57 = .ok (.iinc 5 1, 3) := by decide +kernel
theorem dX1_spread_60 : decode cX1_spread 60 = .ok (.goto (-49), 3) := by decide +kernel
theorem dX1_spread_63 : decode cX1_spread 63 = .ok (.return_, 1) := by decide +kernel
theorem dX1_owns_0 : decode cX1_owns 0 = .ok (.iload_n 1, 1) := by decide +kernel
theorem dX1_owns_1 : decode cX1_owns 1 = .ok (.aload_n 0, 1) := by decide +kernel
theorem dX1_owns_2 : decode cX1_owns 2 = .ok (.getfield 15, 3) := by decide +kernel
theorem dX1_owns_5 : decode cX1_owns 5 = .ok (.if_icmp .lt 17, 3) := by decide +kernel
theorem dX1_owns_8 : decode cX1_owns 8 = .ok (.iload_n 1, 1) := by decide +kernel
theorem dX1_owns_9 : decode cX1_owns 9 = .ok (.aload_n 0, 1) := by decide +kernel
theorem dX1_owns_10 : decode cX1_owns 10 = .ok (.getfield 15, 3) := by decide +kernel
theorem dX1_owns_13 : decode cX1_owns 13 = .ok (.iconst 4, 1) := by decide +kernel
theorem dX1_owns_14 : decode cX1_owns 14 = .ok (.iadd, 1) := by decide +kernel
theorem dX1_owns_15 : decode cX1_owns 15 = .ok (.if_icmp .gt 7, 3) := by decide +kernel
theorem dX1_owns_18 : decode cX1_owns 18 = .ok (.iconst 1, 1) := by decide +kernel
theorem dX1_owns_19 : decode cX1_owns 19 = .ok (.goto 4, 3) := by decide +kernel
theorem dX1_owns_22 : decode cX1_owns 22 = .ok (.iconst 0, 1) := by decide +kernel
theorem dX1_owns_23 : decode cX1_owns 23 = .ok (.ireturn, 1) := by decide +kernel
theorem dX1_isCount_0 : decode cX1_isCount 0 = .ok (.iload_n 1, 1) := by decide +kernel
theorem dX1_isCount_1 : decode cX1_isCount 1 = .ok (.aload_n 0, 1) := by decide +kernel
theorem dX1_isCount_2 : decode cX1_isCount 2 = .ok (.getfield 15, 3) := by decide +kernel
theorem dX1_isCount_5 : decode cX1_isCount 5 = .ok (.if_icmp .ne 7, 3) := by decide +kernel
theorem dX1_isCount_8 : decode cX1_isCount 8 = .ok (.iconst 1, 1) := by decide +kernel
theorem dX1_isCount_9 : decode cX1_isCount 9 = .ok (.goto 4, 3) := by decide +kernel
theorem dX1_isCount_12 : decode cX1_isCount 12 = .ok (.iconst 0, 1) := by decide +kernel
theorem dX1_isCount_13 : decode cX1_isCount 13 = .ok (.ireturn, 1) := by decide +kernel
theorem dX1_countFault_0 : decode cX1_countFault 0 = .ok (.iload_n 1, 1) := by decide +kernel
theorem dX1_countFault_1 : decode cX1_countFault 1 = .ok (.iconst 4, 1) := by decide +kernel
theorem dX1_countFault_2 : decode cX1_countFault 2 = .ok (.if_icmp .le 6, 3) := by decide +kernel
theorem dX1_countFault_5 : decode cX1_countFault 5 = .ok (.ldc 40, 2) := by decide +kernel
theorem dX1_countFault_7 : decode cX1_countFault 7 = .ok (.ireturn, 1) := by decide +kernel
theorem dX1_countFault_8 : decode cX1_countFault 8 = .ok (.iconst 0, 1) := by decide +kernel
theorem dX1_countFault_9 : decode cX1_countFault 9 = .ok (.istore_n 2, 1) := by decide +kernel
theorem dX1_countFault_10 : decode cX1_countFault 10 = .ok (.iconst 1, 1) := by decide +kernel
theorem dX1_countFault_11 : decode cX1_countFault 11 = .ok (.istore_n 3, 1) := by decide +kernel
theorem dX1_countFault_12 : decode cX1_countFault 12 = .ok (.iload_n 3, 1) := by decide +kernel
theorem dX1_countFault_13 : decode cX1_countFault 13 = .ok (.iload_n 1, 1) := by decide +kernel
theorem dX1_countFault_14 : decode cX1_countFault 14 = .ok (.if_icmp .gt 33, 3) := by decide +kernel
theorem dX1_countFault_17 : decode cX1_countFault 17 = .ok (.aload_n 0, 1) := by decide +kernel
theorem dX1_countFault_18 : decode cX1_countFault 18 = .ok (.iload_n 3, 1) := by decide +kernel
theorem dX1_countFault_19 : decode cX1_countFault 19 = .ok (.invokevirtual 41, 3) := by decide +kernel
theorem dX1_countFault_22 : decode cX1_countFault 22 = .ok (.istore 4, 2) := by decide +kernel
theorem dX1_countFault_24 : decode cX1_countFault 24 = .ok (.iload 4, 2) := by decide +kernel
theorem dX1_countFault_26 : decode cX1_countFault 26 = .ok (.iconst (-1), 1) := by decide +kernel
theorem dX1_countFault_27 : decode cX1_countFault 27 = .ok (.if_icmp .ne 6, 3) := by decide +kernel
theorem dX1_countFault_30 : decode cX1_countFault 30 = .ok (.ldc 45, 2) := by decide +kernel
theorem dX1_countFault_32 : decode cX1_countFault 32 = .ok (.ireturn, 1) := by decide +kernel
theorem dX1_countFault_33 : decode cX1_countFault 33 = .ok (.iload_n 2, 1) := by decide +kernel
theorem dX1_countFault_34 : decode cX1_countFault 34 = .ok (.iload 4, 2) := by decide +kernel
theorem dX1_countFault_36 : decode cX1_countFault 36 = .ok (.invokestatic 46, 3) := by decide +kernel
theorem dX1_countFault_39 : decode cX1_countFault 39 = .ok (.iadd, 1) := by decide +kernel
theorem dX1_countFault_40 : decode cX1_countFault 40 = .ok (.istore_n 2, 1) := by decide +kernel
theorem dX1_countFault_41 : decode cX1_countFault 41 = .ok (.iinc 3 1, 3) := by decide +kernel
theorem dX1_countFault_44 : decode cX1_countFault 44 = .ok (.goto (-32), 3) := by decide +kernel
theorem dX1_countFault_47 : decode cX1_countFault 47 = .ok (.iload_n 2, 1) := by decide +kernel
theorem dX1_countFault_48 : decode cX1_countFault 48 = .ok (.bipush 8, 2) := by decide +kernel
theorem dX1_countFault_50 : decode cX1_countFault 50 = .ok (.if_icmp .le 8, 3) := by decide +kernel
theorem dX1_countFault_53 : decode cX1_countFault 53 = .ok (.ldc 49, 2) := by decide +kernel
theorem dX1_countFault_55 : decode cX1_countFault 55 = .ok (.goto 4, 3) := by decide +kernel
theorem dX1_countFault_58 : decode cX1_countFault 58 = .ok (.iconst 0, 1) := by decide +kernel
theorem dX1_countFault_59 : decode cX1_countFault 59 = .ok (.ireturn, 1) := by decide +kernel
theorem dX1_nameFault_0 : decode cX1_nameFault 0 = .ok (.aload_n 0, 1) := by decide +kernel
theorem dX1_nameFault_1 : decode cX1_nameFault 1 = .ok (.invokevirtual 50, 3) := by decide +kernel
theorem dX1_nameFault_4 : decode cX1_nameFault 4 = .ok (.ifCond .eq 6, 3) := by decide +kernel
theorem dX1_nameFault_7 : decode cX1_nameFault 7 = .ok (.ldc 54, 2) := by decide +kernel
theorem dX1_nameFault_9 : decode cX1_nameFault 9 = .ok (.ireturn, 1) := by decide +kernel
theorem dX1_nameFault_10 : decode cX1_nameFault 10 = .ok (.iload_n 1, 1) := by decide +kernel
theorem dX1_nameFault_11 : decode cX1_nameFault 11 = .ok (.ifCond .eq 19, 3) := by decide +kernel
theorem dX1_nameFault_14 : decode cX1_nameFault 14 = .ok (.aload_n 0, 1) := by decide +kernel
theorem dX1_nameFault_15 : decode cX1_nameFault 15 = .ok (.getfield 9, 3) := by decide +kernel
theorem dX1_nameFault_18 : decode cX1_nameFault 18 = .ok (.iload_n 1, 1) := by decide +kernel
theorem dX1_nameFault_19 : decode cX1_nameFault 19 = .ok (.aload_n 0, 1) := by decide +kernel
theorem dX1_nameFault_20 : decode cX1_nameFault 20 = .ok (.getfield 21, 3) := by decide +kernel
theorem dX1_nameFault_23 : decode cX1_nameFault 23 = .ok (.invokevirtual 37, 3) := by decide +kernel
theorem dX1_nameFault_26 : decode cX1_nameFault 26 = .ok (.iconst (-1), 1) := by decide +kernel
theorem dX1_nameFault_27 : decode cX1_nameFault 27 = .ok (.if_icmp .eq 7, 3) := by decide +kernel
theorem dX1_nameFault_30 : decode cX1_nameFault 30 = .ok (.iconst 1, 1) := by decide +kernel
theorem dX1_nameFault_31 : decode cX1_nameFault 31 = .ok (.goto 4, 3) := by decide +kernel
theorem dX1_nameFault_34 : decode cX1_nameFault 34 = .ok (.iconst 0, 1) := by decide +kernel
theorem dX1_nameFault_35 : decode cX1_nameFault 35 = .ok (.istore_n 2, 1) := by decide +kernel
theorem dX1_nameFault_36 : decode cX1_nameFault 36 = .ok (.iload_n 2, 1) := by decide +kernel
theorem dX1_nameFault_37 : decode cX1_nameFault 37 = .ok (.ifCond .eq 7, 3) := by decide +kernel
theorem dX1_nameFault_40 : decode cX1_nameFault 40 = .ok (.iconst 0, 1) := by decide +kernel
theorem dX1_nameFault_41 : decode cX1_nameFault 41 = .ok (.goto 5, 3) := by decide +kernel
theorem dX1_nameFault_44 : decode cX1_nameFault 44 = .ok (.ldc 45, 2) := by decide +kernel
theorem dX1_nameFault_46 : decode cX1_nameFault 46 = .ok (.ireturn, 1) := by decide +kernel
