theorem dX0_init_0 : decode cX0_init 0 = .ok (.aload_n 0, 1) := by decide +kernel
theorem dX0_init_1 : decode cX0_init 1 = .ok (.invokespecial 3, 3) := by decide +kernel
theorem dX0_init_4 : decode cX0_init 4 = .ok (.aload_n 0, 1) := by decide +kernel
theorem dX0_init_5 : decode cX0_init 5 = .ok (.bipush 60, 2) := by decide +kernel
theorem dX0_init_7 : decode cX0_init 7 = .ok (.newarray .int, 2) := by decide +kernel
theorem dX0_init_9 : decode cX0_init 9 = .ok (.putfield 9, 3) := by decide +kernel
theorem dX0_init_12 : decode cX0_init 12 = .ok (.return_, 1) := by decide +kernel
theorem dX0_reset_0 : decode cX0_reset 0 = .ok (.aload_n 0, 1) := by decide +kernel
theorem dX0_reset_1 : decode cX0_reset 1 = .ok (.iconst 0, 1) := by decide +kernel
theorem dX0_reset_2 : decode cX0_reset 2 = .ok (.putfield 15, 3) := by decide +kernel
theorem dX0_reset_5 : decode cX0_reset 5 = .ok (.return_, 1) := by decide +kernel
theorem dX0_size_0 : decode cX0_size 0 = .ok (.aload_n 0, 1) := by decide +kernel
theorem dX0_size_1 : decode cX0_size 1 = .ok (.getfield 15, 3) := by decide +kernel
theorem dX0_size_4 : decode cX0_size 4 = .ok (.ireturn, 1) := by decide +kernel
theorem dX0_has_0 : decode cX0_has 0 = .ok (.iload_n 1, 1) := by decide +kernel
theorem dX0_has_1 : decode cX0_has 1 = .ok (.ifCond .lt 15, 3) := by decide +kernel
theorem dX0_has_4 : decode cX0_has 4 = .ok (.iload_n 1, 1) := by decide +kernel
theorem dX0_has_5 : decode cX0_has 5 = .ok (.aload_n 0, 1) := by decide +kernel
theorem dX0_has_6 : decode cX0_has 6 = .ok (.getfield 15, 3) := by decide +kernel
theorem dX0_has_9 : decode cX0_has 9 = .ok (.if_icmp .ge 7, 3) := by decide +kernel
theorem dX0_has_12 : decode cX0_has 12 = .ok (.iconst 1, 1) := by decide +kernel
theorem dX0_has_13 : decode cX0_has 13 = .ok (.goto 4, 3) := by decide +kernel
theorem dX0_has_16 : decode cX0_has 16 = .ok (.iconst 0, 1) := by decide +kernel
theorem dX0_has_17 : decode cX0_has 17 = .ok (.ireturn, 1) := by decide +kernel
theorem dX0_allBits_0 : decode cX0_allBits 0 = .ok (.iconst 1, 1) := by decide +kernel
theorem dX0_allBits_1 : decode cX0_allBits 1 = .ok (.aload_n 0, 1) := by decide +kernel
theorem dX0_allBits_2 : decode cX0_allBits 2 = .ok (.getfield 15, 3) := by decide +kernel
theorem dX0_allBits_5 : decode cX0_allBits 5 = .ok (.ishl, 1) := by decide +kernel
theorem dX0_allBits_6 : decode cX0_allBits 6 = .ok (.iconst 1, 1) := by decide +kernel
theorem dX0_allBits_7 : decode cX0_allBits 7 = .ok (.isub, 1) := by decide +kernel
theorem dX0_allBits_8 : decode cX0_allBits 8 = .ok (.ireturn, 1) := by decide +kernel
theorem dX0_add_0 : decode cX0_add 0 = .ok (.aload_n 0, 1) := by decide +kernel
theorem dX0_add_1 : decode cX0_add 1 = .ok (.getfield 15, 3) := by decide +kernel
theorem dX0_add_4 : decode cX0_add 4 = .ok (.bipush 12, 2) := by decide +kernel
theorem dX0_add_6 : decode cX0_add 6 = .ok (.if_icmp .lt 5, 3) := by decide +kernel
theorem dX0_add_9 : decode cX0_add 9 = .ok (.iconst (-1), 1) := by decide +kernel
theorem dX0_add_10 : decode cX0_add 10 = .ok (.ireturn, 1) := by decide +kernel
theorem dX0_add_11 : decode cX0_add 11 = .ok (.aload_n 0, 1) := by decide +kernel
theorem dX0_add_12 : decode cX0_add 12 = .ok (.getfield 15, 3) := by decide +kernel
theorem dX0_add_15 : decode cX0_add 15 = .ok (.iconst 5, 1) := by decide +kernel
theorem dX0_add_16 : decode cX0_add 16 = .ok (.imul, 1) := by decide +kernel
theorem dX0_add_17 : decode cX0_add 17 = .ok (.istore 6, 2) := by decide +kernel
theorem dX0_add_19 : decode cX0_add 19 = .ok (.aload_n 0, 1) := by decide +kernel
theorem dX0_add_20 : decode cX0_add 20 = .ok (.getfield 9, 3) := by decide +kernel
theorem dX0_add_23 : decode cX0_add 23 = .ok (.iload 6, 2) := by decide +kernel
theorem dX0_add_25 : decode cX0_add 25 = .ok (.iconst 0, 1) := by decide +kernel
theorem dX0_add_26 : decode cX0_add 26 = .ok (.iadd, 1) := by decide +kernel
theorem dX0_add_27 : decode cX0_add 27 = .ok (.iload_n 1, 1) := by decide +kernel
theorem dX0_add_28 : decode cX0_add 28 = .ok (.iastore, 1) := by decide +kernel
theorem dX0_add_29 : decode cX0_add 29 = .ok (.aload_n 0, 1) := by decide +kernel
theorem dX0_add_30 : decode cX0_add 30 = .ok (.getfield 9, 3) := by decide +kernel
theorem dX0_add_33 : decode cX0_add 33 = .ok (.iload 6, 2) := by decide +kernel
theorem dX0_add_35 : decode cX0_add 35 = .ok (.iconst 1, 1) := by decide +kernel
theorem dX0_add_36 : decode cX0_add 36 = .ok (.iadd, 1) := by decide +kernel
theorem dX0_add_37 : decode cX0_add 37 = .ok (.iload_n 2, 1) := by decide +kernel
theorem dX0_add_38 : decode cX0_add 38 = .ok (.iastore, 1) := by decide +kernel
theorem dX0_add_39 : decode cX0_add 39 = .ok (.aload_n 0, 1) := by decide +kernel
theorem dX0_add_40 : decode cX0_add 40 = .ok (.getfield 9, 3) := by decide +kernel
theorem dX0_add_43 : decode cX0_add 43 = .ok (.iload 6, 2) := by decide +kernel
theorem dX0_add_45 : decode cX0_add 45 = .ok (.iconst 2, 1) := by decide +kernel
theorem dX0_add_46 : decode cX0_add 46 = .ok (.iadd, 1) := by decide +kernel
theorem dX0_add_47 : decode cX0_add 47 = .ok (.iload_n 3, 1) := by decide +kernel
theorem dX0_add_48 : decode cX0_add 48 = .ok (.iastore, 1) := by decide +kernel
theorem dX0_add_49 : decode cX0_add 49 = .ok (.aload_n 0, 1) := by decide +kernel
theorem dX0_add_50 : decode cX0_add 50 = .ok (.getfield 9, 3) := by decide +kernel
theorem dX0_add_53 : decode cX0_add 53 = .ok (.iload 6, 2) := by decide +kernel
theorem dX0_add_55 : decode cX0_add 55 = .ok (.iconst 3, 1) := by decide +kernel
theorem dX0_add_56 : decode cX0_add 56 = .ok (.iadd, 1) := by decide +kernel
theorem dX0_add_57 : decode cX0_add 57 = .ok (.iload 4, 2) := by decide +kernel
theorem dX0_add_59 : decode cX0_add 59 = .ok (.iastore, 1) := by decide +kernel
theorem dX0_add_60 : decode cX0_add 60 = .ok (.aload_n 0, 1) := by decide +kernel
theorem dX0_add_61 : decode cX0_add 61 = .ok (.getfield 9, 3) := by decide +kernel
theorem dX0_add_64 : decode cX0_add 64 = .ok (.iload 6, 2) := by decide +kernel
theorem dX0_add_66 : decode cX0_add 66 = .ok (.iconst 4, 1) := by decide +kernel
theorem dX0_add_67 : decode cX0_add 67 = .ok (.iadd, 1) := by decide +kernel
theorem dX0_add_68 : decode cX0_add 68 = .ok (.iload 5, 2) := by decide +kernel
theorem dX0_add_70 : decode cX0_add 70 = .ok (.iastore, 1) := by decide +kernel
theorem dX0_add_71 : decode cX0_add 71 = .ok (.aload_n 0, 1) := by decide +kernel
theorem dX0_add_72 : decode cX0_add 72 = .ok (.dup, 1) := by decide +kernel
theorem dX0_add_73 : decode cX0_add 73 = .ok (.getfield 15, 3) := by decide +kernel
theorem dX0_add_76 : decode cX0_add 76 = .ok (.iconst 1, 1) := by decide +kernel
theorem dX0_add_77 : decode cX0_add 77 = .ok (.iadd, 1) := by decide +kernel
theorem dX0_add_78 : decode cX0_add 78 = .ok (.putfield 15, 3) := by decide +kernel
theorem dX0_add_81 : decode cX0_add 81 = .ok (.aload_n 0, 1) := by decide +kernel
theorem dX0_add_82 : decode cX0_add 82 = .ok (.getfield 15, 3) := by decide +kernel
theorem dX0_add_85 : decode cX0_add 85 = .ok (.iconst 1, 1) := by decide +kernel
theorem dX0_add_86 : decode cX0_add 86 = .ok (.isub, 1) := by decide +kernel
theorem dX0_add_87 : decode cX0_add 87 = .ok (.ireturn, 1) := by decide +kernel
theorem dX0_get_0 : decode cX0_get 0 = .ok (.iload_n 1, 1) := by decide +kernel
theorem dX0_get_1 : decode cX0_get 1 = .ok (.iconst 5, 1) := by decide +kernel
theorem dX0_get_2 : decode cX0_get 2 = .ok (.imul, 1) := by decide +kernel
theorem dX0_get_3 : decode cX0_get 3 = .ok (.iload_n 2, 1) := by decide +kernel
theorem dX0_get_4 : decode cX0_get 4 = .ok (.iadd, 1) := by decide +kernel
theorem dX0_get_5 : decode cX0_get 5 = .ok (.istore_n 3, 1) := by decide +kernel
theorem dX0_get_6 : decode cX0_get 6 = .ok (.iload_n 3, 1) := by decide +kernel
theorem dX0_get_7 : decode cX0_get 7 = .ok (.ifCond .lt 21, 3) := by decide +kernel
theorem dX0_get_10 : decode cX0_get 10 = .ok (.iload_n 3, 1) := by decide +kernel
theorem dX0_get_11 : decode cX0_get 11 = .ok (.aload_n 0, 1) := by decide +kernel
theorem dX0_get_12 : decode cX0_get 12 = .ok (.getfield 9, 3) := by decide +kernel
theorem dX0_get_15 : decode cX0_get 15 = .ok (.arraylength, 1) := by decide +kernel
theorem dX0_get_16 : decode cX0_get 16 = .ok (.if_icmp .ge 12, 3) := by decide +kernel
theorem dX0_get_19 : decode cX0_get 19 = .ok (.aload_n 0, 1) := by decide +kernel
theorem dX0_get_20 : decode cX0_get 20 = .ok (.getfield 9, 3) := by decide +kernel
theorem dX0_get_23 : decode cX0_get 23 = .ok (.iload_n 3, 1) := by decide +kernel
theorem dX0_get_24 : decode cX0_get 24 = .ok (.iaload, 1) := by decide +kernel
theorem dX0_get_25 : decode cX0_get 25 = .ok (.goto 4, 3) := by decide +kernel
theorem dX0_get_28 : decode cX0_get 28 = .ok (.iconst (-1), 1) := by decide +kernel
theorem dX0_get_29 : decode cX0_get 29 = .ok (.ireturn, 1) := by decide +kernel
theorem dX1_init_0 : decode cX1_init 0 = .ok (.aload_n 0, 1) := by decide +kernel
theorem dX1_init_1 : decode cX1_init 1 = .ok (.invokespecial 3, 3) := by decide +kernel
theorem dX1_init_4 : decode cX1_init 4 = .ok (.return_, 1) := by decide +kernel
theorem dX1_start_0 : decode cX1_start 0 = .ok (.aload_n 0, 1) := by decide +kernel
theorem dX1_start_1 : decode cX1_start 1 = .ok (.iconst 1, 1) := by decide +kernel
theorem dX1_start_2 : decode cX1_start 2 = .ok (.putfield 9, 3) := by decide +kernel
theorem dX1_start_5 : decode cX1_start 5 = .ok (.aload_n 0, 1) := by decide +kernel
theorem dX1_start_6 : decode cX1_start 6 = .ok (.iload_n 1, 1) := by decide +kernel
theorem dX1_start_7 : decode cX1_start 7 = .ok (.putfield 15, 3) := by decide +kernel
theorem dX1_start_10 : decode cX1_start 10 = .ok (.aload_n 0, 1) := by decide +kernel
theorem dX1_start_11 : decode cX1_start 11 = .ok (.iconst 0, 1) := by decide +kernel
theorem dX1_start_12 : decode cX1_start 12 = .ok (.putfield 19, 3) := by decide +kernel
theorem dX1_start_15 : decode cX1_start 15 = .ok (.aload_n 0, 1) := by decide +kernel
theorem dX1_start_16 : decode cX1_start 16 = .ok (.iconst 0, 1) := by decide +kernel
theorem dX1_start_17 : decode cX1_start 17 = .ok (.putfield 22, 3) := by decide +kernel
theorem dX1_start_20 : decode cX1_start 20 = .ok (.aload_n 0, 1) := by decide +kernel
theorem dX1_start_21 : decode cX1_start 21 = .ok (.iload_n 2, 1) := by decide +kernel
theorem dX1_start_22 : decode cX1_start 22 = .ok (.putfield 25, 3) := by decide +kernel
theorem dX1_start_25 : decode cX1_start 25 = .ok (.aload_n 0, 1) := by decide +kernel
theorem dX1_start_26 : decode cX1_start 26 = .ok (.iconst 0, 1) := by decide +kernel
theorem dX1_start_27 : decode cX1_start 27 = .ok (.putfield 28, 3) := by decide +kernel
theorem dX1_start_30 : decode cX1_start 30 = .ok (.aload_n 0, 1) := by decide +kernel
theorem dX1_start_31 : decode cX1_start 31 = .ok (.iconst 0, 1) := by decide +kernel
theorem dX1_start_32 : decode cX1_start 32 = .ok (.putfield 31, 3) := by decide +kernel
theorem dX1_start_35 : decode cX1_start 35 = .ok (.aload_n 0, 1) := by decide +kernel
theorem dX1_start_36 : decode cX1_start 36 = .ok (.iconst 0, 1) := by decide +kernel
theorem dX1_start_37 : decode cX1_start 37 = .ok (.putfield 34, 3) := by decide +kernel
theorem dX1_start_40 : decode cX1_start 40 = .ok (.return_, 1) := by decide +kernel
theorem dX1_stop_0 : decode cX1_stop 0 = .ok (.aload_n 0, 1) := by decide +kernel
theorem dX1_stop_1 : decode cX1_stop 1 = .ok (.iconst 0, 1) := by decide +kernel
theorem dX1_stop_2 : decode cX1_stop 2 = .ok (.putfield 9, 3) := by decide +kernel
theorem dX1_stop_5 : decode cX1_stop 5 = .ok (.return_, 1) := by decide +kernel
theorem dX1_isGoing_0 : decode cX1_isGoing 0 = .ok (.aload_n 0, 1) := by decide +kernel
theorem dX1_isGoing_1 : decode cX1_isGoing 1 = .ok (.getfield 9, 3) := by decide +kernel
theorem dX1_isGoing_4 : decode cX1_isGoing 4 = .ok (.ireturn, 1) := by decide +kernel
theorem dX1_itsCause_0 : decode cX1_itsCause 0 = .ok (.aload_n 0, 1) := by decide +kernel
theorem dX1_itsCause_1 : decode cX1_itsCause 1 = .ok (.getfield 15, 3) := by decide +kernel
theorem dX1_itsCause_4 : decode cX1_itsCause 4 = .ok (.ireturn, 1) := by decide +kernel
theorem dX1_mendedFaults_0 : decode cX1_mendedFaults 0 = .ok (.aload_n 0, 1) := by decide +kernel
theorem dX1_mendedFaults_1 : decode cX1_mendedFaults 1 = .ok (.getfield 19, 3) := by decide +kernel
theorem dX1_mendedFaults_4 : decode cX1_mendedFaults 4 = .ok (.ireturn, 1) := by decide +kernel
theorem dX1_isMended_0 : decode cX1_isMended 0 = .ok (.aload_n 0, 1) := by decide +kernel
theorem dX1_isMended_1 : decode cX1_isMended 1 = .ok (.getfield 19, 3) := by decide +kernel
theorem dX1_isMended_4 : decode cX1_isMended 4 = .ok (.iload_n 1, 1) := by decide +kernel
theorem dX1_isMended_5 : decode cX1_isMended 5 = .ok (.invokestatic 37, 3) := by decide +kernel
theorem dX1_isMended_8 : decode cX1_isMended 8 = .ok (.ireturn, 1) := by decide +kernel
theorem dX1_possible_0 : decode cX1_possible 0 = .ok (.aload_n 0, 1) := by decide +kernel
theorem dX1_possible_1 : decode cX1_possible 1 = .ok (.getfield 25, 3) := by decide +kernel
theorem dX1_possible_4 : decode cX1_possible 4 = .ok (.ireturn, 1) := by decide +kernel
theorem dX1_minutesSpent_0 : decode cX1_minutesSpent 0 = .ok (.aload_n 0, 1) := by decide +kernel
theorem dX1_minutesSpent_1 : decode cX1_minutesSpent 1 = .ok (.getfield 22, 3) := by decide +kernel
theorem dX1_minutesSpent_4 : decode cX1_minutesSpent 4 = .ok (.ireturn, 1) := by decide +kernel
theorem dX1_looksUsed_0 : decode cX1_looksUsed 0 = .ok (.aload_n 0, 1) := by decide +kernel
theorem dX1_looksUsed_1 : decode cX1_looksUsed 1 = .ok (.getfield 28, 3) := by decide +kernel
theorem dX1_looksUsed_4 : decode cX1_looksUsed 4 = .ok (.ireturn, 1) := by decide +kernel
theorem dX1_looksThatTold_0 : decode cX1_looksThatTold 0 = .ok (.aload_n 0, 1) := by decide +kernel
theorem dX1_looksThatTold_1 : decode cX1_looksThatTold 1 = .ok (.getfield 31, 3) := by decide +kernel
theorem dX1_looksThatTold_4 : decode cX1_looksThatTold 4 = .ok (.ireturn, 1) := by decide +kernel
theorem dX1_wrongClaims_0 : decode cX1_wrongClaims 0 = .ok (.aload_n 0, 1) := by decide +kernel
theorem dX1_wrongClaims_1 : decode cX1_wrongClaims 1 = .ok (.getfield 34, 3) := by decide +kernel
theorem dX1_wrongClaims_4 : decode cX1_wrongClaims 4 = .ok (.ireturn, 1) := by decide +kernel
theorem dX1_noteLook_0 : decode cX1_noteLook 0 = .ok (.aload_n 0, 1) := by decide +kernel
theorem dX1_noteLook_1 : decode cX1_noteLook 1 = .ok (.dup, 1) := by decide +kernel
theorem dX1_noteLook_2 : decode cX1_noteLook 2 = .ok (.getfield 22, 3) := by decide +kernel
theorem dX1_noteLook_5 : decode cX1_noteLook 5 = .ok (.iload_n 1, 1) := by decide +kernel
theorem dX1_noteLook_6 : decode cX1_noteLook 6 = .ok (.iadd, 1) := by decide +kernel
theorem dX1_noteLook_7 : decode cX1_noteLook 7 = .ok (.putfield 22, 3) := by decide +kernel
theorem dX1_noteLook_10 : decode cX1_noteLook 10 = .ok (.aload_n 0, 1) := by decide +kernel
theorem dX1_noteLook_11 : decode cX1_noteLook 11 = .ok (.dup, 1) := by decide +kernel
theorem dX1_noteLook_12 : decode cX1_noteLook 12 = .ok (.getfield 28, 3) := by decide +kernel
theorem dX1_noteLook_15 : decode cX1_noteLook 15 = .ok (.iconst 1, 1) := by decide +kernel
theorem dX1_noteLook_16 : decode cX1_noteLook 16 = .ok (.iadd, 1) := by decide +kernel
theorem dX1_noteLook_17 : decode cX1_noteLook 17 = .ok (.putfield 28, 3) := by decide +kernel
theorem dX1_noteLook_20 : decode cX1_noteLook 20 = .ok (.aload_n 0, 1) := by decide +kernel
theorem dX1_noteLook_21 : decode cX1_noteLook 21 = .ok (.getfield 25, 3) := by decide +kernel
theorem dX1_noteLook_24 : decode cX1_noteLook 24 = .ok (.iload_n 2, 1) := by decide +kernel
theorem dX1_noteLook_25 : decode cX1_noteLook 25 = .ok (.iand, 1) := by decide +kernel
theorem dX1_noteLook_26 : decode cX1_noteLook 26 = .ok (.istore_n 3, 1) := by decide +kernel
theorem dX1_noteLook_27 : decode cX1_noteLook 27 = .ok (.aload_n 0, 1) := by decide +kernel
theorem dX1_noteLook_28 : decode cX1_noteLook 28 = .ok (.getfield 19, 3) := by decide +kernel
theorem dX1_noteLook_31 : decode cX1_noteLook 31 = .ok (.ifCond .ne 26, 3) := by decide +kernel
theorem dX1_noteLook_34 : decode cX1_noteLook 34 = .ok (.iload_n 3, 1) := by decide +kernel
theorem dX1_noteLook_35 : decode cX1_noteLook 35 = .ok (.aload_n 0, 1) := by decide +kernel
theorem dX1_noteLook_36 : decode cX1_noteLook 36 = .ok (.getfield 25, 3) := by decide +kernel
theorem dX1_noteLook_39 : decode cX1_noteLook 39 = .ok (.if_icmp .eq 18, 3) := by decide +kernel
theorem dX1_noteLook_42 : decode cX1_noteLook 42 = .ok (.aload_n 0, 1) := by decide +kernel
theorem dX1_noteLook_43 : decode cX1_noteLook 43 = .ok (.iload_n 3, 1) := by decide +kernel
theorem dX1_noteLook_44 : decode cX1_noteLook 44 = .ok (.putfield 25, 3) := by decide +kernel
theorem dX1_noteLook_47 : decode cX1_noteLook 47 = .ok (.aload_n 0, 1) := by decide +kernel
theorem dX1_noteLook_48 : decode cX1_noteLook 48 = .ok (.dup, 1) := by decide +kernel
theorem dX1_noteLook_49 : decode cX1_noteLook 49 = .ok (.getfield 31, 3) := by decide +kernel
theorem dX1_noteLook_52 : decode cX1_noteLook 52 = .ok (.iconst 1, 1) := by decide +kernel
theorem dX1_noteLook_53 : decode cX1_noteLook 53 = .ok (.iadd, 1) := by decide +kernel
theorem dX1_noteLook_54 : decode cX1_noteLook 54 = .ok (.putfield 31, 3) := by decide +kernel
theorem dX1_noteLook_57 : decode cX1_noteLook 57 = .ok (.return_, 1) := by decide +kernel
theorem dX1_noteMend_0 : decode cX1_noteMend 0 = .ok (.aload_n 0, 1) := by decide +kernel
theorem dX1_noteMend_1 : decode cX1_noteMend 1 = .ok (.dup, 1) := by decide +kernel
theorem dX1_noteMend_2 : decode cX1_noteMend 2 = .ok (.getfield 19, 3) := by decide +kernel
theorem dX1_noteMend_5 : decode cX1_noteMend 5 = .ok (.iconst 1, 1) := by decide +kernel
theorem dX1_noteMend_6 : decode cX1_noteMend 6 = .ok (.iload_n 1, 1) := by decide +kernel
theorem dX1_noteMend_7 : decode cX1_noteMend 7 = .ok (.ishl, 1) := by decide +kernel
theorem dX1_noteMend_8 : decode cX1_noteMend 8 = .ok (.ior, 1) := by decide +kernel
theorem dX1_noteMend_9 : decode cX1_noteMend 9 = .ok (.putfield 19, 3) := by decide +kernel
theorem dX1_noteMend_12 : decode cX1_noteMend 12 = .ok (.aload_n 0, 1) := by decide +kernel
theorem dX1_noteMend_13 : decode cX1_noteMend 13 = .ok (.dup, 1) := by decide +kernel
theorem dX1_noteMend_14 : decode cX1_noteMend 14 = .ok (.getfield 22, 3) := by decide +kernel
theorem dX1_noteMend_17 : decode cX1_noteMend 17 = .ok (.iconst 5, 1) := by decide +kernel
theorem dX1_noteMend_18 : decode cX1_noteMend 18 = .ok (.iadd, 1) := by decide +kernel
theorem dX1_noteMend_19 : decode cX1_noteMend 19 = .ok (.putfield 22, 3) := by decide +kernel
theorem dX1_noteMend_22 : decode cX1_noteMend 22 = .ok (.return_, 1) := by decide +kernel
theorem dX1_noteWrongClaim_0 : decode cX1_noteWrongClaim 0 = .ok (.aload_n 0, 1) := by decide +kernel
theorem dX1_noteWrongClaim_1 : decode cX1_noteWrongClaim 1 = .ok (.dup, 1) := by decide +kernel
theorem dX1_noteWrongClaim_2 : decode cX1_noteWrongClaim 2 = .ok (.getfield 34, 3) := by decide +kernel
theorem dX1_noteWrongClaim_5 : decode cX1_noteWrongClaim 5 = .ok (.iconst 1, 1) := by decide +kernel
theorem dX1_noteWrongClaim_6 : decode cX1_noteWrongClaim 6 = .ok (.iadd, 1) := by decide +kernel
theorem dX1_noteWrongClaim_7 : decode cX1_noteWrongClaim 7 = .ok (.putfield 34, 3) := by decide +kernel
theorem dX1_noteWrongClaim_10 : decode cX1_noteWrongClaim 10 = .ok (.aload_n 0, 1) := by decide +kernel
theorem dX1_noteWrongClaim_11 : decode cX1_noteWrongClaim 11 = .ok (.dup, 1) := by decide +kernel
theorem dX1_noteWrongClaim_12 : decode cX1_noteWrongClaim 12 = .ok (.getfield 22, 3) := by decide +kernel
theorem dX1_noteWrongClaim_15 : decode cX1_noteWrongClaim 15 = .ok (.bipush 10, 2) := by decide +kernel
theorem dX1_noteWrongClaim_17 : decode cX1_noteWrongClaim 17 = .ok (.iadd, 1) := by decide +kernel
theorem dX1_noteWrongClaim_18 : decode cX1_noteWrongClaim 18 = .ok (.putfield 22, 3) := by decide +kernel
theorem dX1_noteWrongClaim_21 : decode cX1_noteWrongClaim 21 = .ok (.return_, 1) := by decide +kernel
theorem dX2_init_0 : decode cX2_init 0 = .ok (.aload_n 0, 1) := by decide +kernel
theorem dX2_init_1 : decode cX2_init 1 = .ok (.invokespecial 3, 3) := by decide +kernel
theorem dX2_init_4 : decode cX2_init 4 = .ok (.aload_n 0, 1) := by decide +kernel
theorem dX2_init_5 : decode cX2_init 5 = .ok (.bipush 12, 2) := by decide +kernel
theorem dX2_init_7 : decode cX2_init 7 = .ok (.newarray .int, 2) := by decide +kernel
theorem dX2_init_9 : decode cX2_init 9 = .ok (.putfield 9, 3) := by decide +kernel
theorem dX2_init_12 : decode cX2_init 12 = .ok (.aload_n 0, 1) := by decide +kernel
theorem dX2_init_13 : decode cX2_init 13 = .ok (.bipush 12, 2) := by decide +kernel
theorem dX2_init_15 : decode cX2_init 15 = .ok (.newarray .int, 2) := by decide +kernel
theorem dX2_init_17 : decode cX2_init 17 = .ok (.putfield 15, 3) := by decide +kernel
theorem dX2_init_20 : decode cX2_init 20 = .ok (.aload_n 0, 1) := by decide +kernel
theorem dX2_init_21 : decode cX2_init 21 = .ok (.sipush 144, 3) := by decide +kernel
theorem dX2_init_24 : decode cX2_init 24 = .ok (.newarray .int, 2) := by decide +kernel
theorem dX2_init_26 : decode cX2_init 26 = .ok (.putfield 18, 3) := by decide +kernel
theorem dX2_init_29 : decode cX2_init 29 = .ok (.aload_n 0, 1) := by decide +kernel
theorem dX2_init_30 : decode cX2_init 30 = .ok (.sipush 144, 3) := by decide +kernel
theorem dX2_init_33 : decode cX2_init 33 = .ok (.newarray .int, 2) := by decide +kernel
theorem dX2_init_35 : decode cX2_init 35 = .ok (.putfield 21, 3) := by decide +kernel
theorem dX2_init_38 : decode cX2_init 38 = .ok (.aload_n 0, 1) := by decide +kernel
theorem dX2_init_39 : decode cX2_init 39 = .ok (.invokevirtual 24, 3) := by decide +kernel
theorem dX2_init_42 : decode cX2_init 42 = .ok (.return_, 1) := by decide +kernel
theorem dX2_reset_0 : decode cX2_reset 0 = .ok (.aload_n 0, 1) := by decide +kernel
theorem dX2_reset_1 : decode cX2_reset 1 = .ok (.iconst 0, 1) := by decide +kernel
theorem dX2_reset_2 : decode cX2_reset 2 = .ok (.putfield 27, 3) := by decide +kernel
theorem dX2_reset_5 : decode cX2_reset 5 = .ok (.aload_n 0, 1) := by decide +kernel
theorem dX2_reset_6 : decode cX2_reset 6 = .ok (.iconst 0, 1) := by decide +kernel
theorem dX2_reset_7 : decode cX2_reset 7 = .ok (.putfield 31, 3) := by decide +kernel
theorem dX2_reset_10 : decode cX2_reset 10 = .ok (.aload_n 0, 1) := by decide +kernel
theorem dX2_reset_11 : decode cX2_reset 11 = .ok (.iconst 0, 1) := by decide +kernel
theorem dX2_reset_12 : decode cX2_reset 12 = .ok (.putfield 34, 3) := by decide +kernel
theorem dX2_reset_15 : decode cX2_reset 15 = .ok (.aload_n 0, 1) := by decide +kernel
theorem dX2_reset_16 : decode cX2_reset 16 = .ok (.getfield 15, 3) := by decide +kernel
theorem dX2_reset_19 : decode cX2_reset 19 = .ok (.iconst 0, 1) := by decide +kernel
theorem dX2_reset_20 : decode cX2_reset 20 = .ok (.invokestatic 37, 3) := by decide +kernel
theorem dX2_reset_23 : decode cX2_reset 23 = .ok (.aload_n 0, 1) := by decide +kernel
theorem dX2_reset_24 : decode cX2_reset 24 = .ok (.getfield 18, 3) := by decide +kernel
theorem dX2_reset_27 : decode cX2_reset 27 = .ok (.iconst (-1), 1) := by decide +kernel
theorem dX2_reset_28 : decode cX2_reset 28 = .ok (.invokestatic 37, 3) := by decide +kernel
theorem dX2_reset_31 : decode cX2_reset 31 = .ok (.aload_n 0, 1) := by decide +kernel
theorem dX2_reset_32 : decode cX2_reset 32 = .ok (.getfield 21, 3) := by decide +kernel
theorem dX2_reset_35 : decode cX2_reset 35 = .ok (.iconst (-1), 1) := by decide +kernel
theorem dX2_reset_36 : decode cX2_reset 36 = .ok (.invokestatic 37, 3) := by decide +kernel
theorem dX2_reset_39 : decode cX2_reset 39 = .ok (.return_, 1) := by decide +kernel
theorem dX2_nodeCount_0 : decode cX2_nodeCount 0 = .ok (.aload_n 0, 1) := by decide +kernel
theorem dX2_nodeCount_1 : decode cX2_nodeCount 1 = .ok (.getfield 27, 3) := by decide +kernel
theorem dX2_nodeCount_4 : decode cX2_nodeCount 4 = .ok (.ireturn, 1) := by decide +kernel
theorem dX2_lineCount_0 : decode cX2_lineCount 0 = .ok (.aload_n 0, 1) := by decide +kernel
theorem dX2_lineCount_1 : decode cX2_lineCount 1 = .ok (.getfield 31, 3) := by decide +kernel
theorem dX2_lineCount_4 : decode cX2_lineCount 4 = .ok (.ireturn, 1) := by decide +kernel
theorem dX2_isNode_0 : decode cX2_isNode 0 = .ok (.iload_n 1, 1) := by decide +kernel
theorem dX2_isNode_1 : decode cX2_isNode 1 = .ok (.ifCond .lt 15, 3) := by decide +kernel
theorem dX2_isNode_4 : decode cX2_isNode 4 = .ok (.iload_n 1, 1) := by decide +kernel
theorem dX2_isNode_5 : decode cX2_isNode 5 = .ok (.aload_n 0, 1) := by decide +kernel
theorem dX2_isNode_6 : decode cX2_isNode 6 = .ok (.getfield 27, 3) := by decide +kernel
theorem dX2_isNode_9 : decode cX2_isNode 9 = .ok (.if_icmp .ge 7, 3) := by decide +kernel
theorem dX2_isNode_12 : decode cX2_isNode 12 = .ok (.iconst 1, 1) := by decide +kernel
theorem dX2_isNode_13 : decode cX2_isNode 13 = .ok (.goto 4, 3) := by decide +kernel
theorem dX2_isNode_16 : decode cX2_isNode 16 = .ok (.iconst 0, 1) := by decide +kernel
theorem dX2_isNode_17 : decode cX2_isNode 17 = .ok (.ireturn, 1) := by decide +kernel
theorem dX2_isHost_0 : decode cX2_isHost 0 = .ok (.iload_n 1, 1) := by decide +kernel
theorem dX2_isHost_1 : decode cX2_isHost 1 = .ok (.ifCond .lt 24, 3) := by decide +kernel
theorem dX2_isHost_4 : decode cX2_isHost 4 = .ok (.iload_n 1, 1) := by decide +kernel
theorem dX2_isHost_5 : decode cX2_isHost 5 = .ok (.aload_n 0, 1) := by decide +kernel
theorem dX2_isHost_6 : decode cX2_isHost 6 = .ok (.getfield 27, 3) := by decide +kernel
theorem dX2_isHost_9 : decode cX2_isHost 9 = .ok (.if_icmp .ge 16, 3) := by decide +kernel
theorem dX2_isHost_12 : decode cX2_isHost 12 = .ok (.aload_n 0, 1) := by decide +kernel
theorem dX2_isHost_13 : decode cX2_isHost 13 = .ok (.getfield 9, 3) := by decide +kernel
theorem dX2_isHost_16 : decode cX2_isHost 16 = .ok (.iload_n 1, 1) := by decide +kernel
theorem dX2_isHost_17 : decode cX2_isHost 17 = .ok (.iaload, 1) := by decide +kernel
theorem dX2_isHost_18 : decode cX2_isHost 18 = .ok (.ifCond .ne 7, 3) := by decide +kernel
theorem dX2_isHost_21 : decode cX2_isHost 21 = .ok (.iconst 1, 1) := by decide +kernel
theorem dX2_isHost_22 : decode cX2_isHost 22 = .ok (.goto 4, 3) := by decide +kernel
theorem dX2_isHost_25 : decode cX2_isHost 25 = .ok (.iconst 0, 1) := by decide +kernel
theorem dX2_isHost_26 : decode cX2_isHost 26 = .ok (.ireturn, 1) := by decide +kernel
theorem dX2_isWall_0 : decode cX2_isWall 0 = .ok (.iload_n 1, 1) := by decide +kernel
theorem dX2_isWall_1 : decode cX2_isWall 1 = .ok (.ifCond .lt 25, 3) := by decide +kernel
theorem dX2_isWall_4 : decode cX2_isWall 4 = .ok (.iload_n 1, 1) := by decide +kernel
theorem dX2_isWall_5 : decode cX2_isWall 5 = .ok (.aload_n 0, 1) := by decide +kernel
theorem dX2_isWall_6 : decode cX2_isWall 6 = .ok (.getfield 27, 3) := by decide +kernel
theorem dX2_isWall_9 : decode cX2_isWall 9 = .ok (.if_icmp .ge 17, 3) := by decide +kernel
theorem dX2_isWall_12 : decode cX2_isWall 12 = .ok (.aload_n 0, 1) := by decide +kernel
theorem dX2_isWall_13 : decode cX2_isWall 13 = .ok (.getfield 9, 3) := by decide +kernel
theorem dX2_isWall_16 : decode cX2_isWall 16 = .ok (.iload_n 1, 1) := by decide +kernel
theorem dX2_isWall_17 : decode cX2_isWall 17 = .ok (.iaload, 1) := by decide +kernel
theorem dX2_isWall_18 : decode cX2_isWall 18 = .ok (.iconst 3, 1) := by decide +kernel
theorem dX2_isWall_19 : decode cX2_isWall 19 = .ok (.if_icmp .ne 7, 3) := by decide +kernel
theorem dX2_isWall_22 : decode cX2_isWall 22 = .ok (.iconst 1, 1) := by decide +kernel
theorem dX2_isWall_23 : decode cX2_isWall 23 = .ok (.goto 4, 3) := by decide +kernel
theorem dX2_isWall_26 : decode cX2_isWall 26 = .ok (.iconst 0, 1) := by decide +kernel
theorem dX2_isWall_27 : decode cX2_isWall 27 = .ok (.ireturn, 1) := by decide +kernel
theorem dX2_isGate_0 : decode cX2_isGate 0 = .ok (.iload_n 1, 1) := by decide +kernel
theorem dX2_isGate_1 : decode cX2_isGate 1 = .ok (.ifCond .lt 25, 3) := by decide +kernel
theorem dX2_isGate_4 : decode cX2_isGate 4 = .ok (.iload_n 1, 1) := by decide +kernel
theorem dX2_isGate_5 : decode cX2_isGate 5 = .ok (.aload_n 0, 1) := by decide +kernel
theorem dX2_isGate_6 : decode cX2_isGate 6 = .ok (.getfield 27, 3) := by decide +kernel
theorem dX2_isGate_9 : decode cX2_isGate 9 = .ok (.if_icmp .ge 17, 3) := by decide +kernel
theorem dX2_isGate_12 : decode cX2_isGate 12 = .ok (.aload_n 0, 1) := by decide +kernel
theorem dX2_isGate_13 : decode cX2_isGate 13 = .ok (.getfield 9, 3) := by decide +kernel
theorem dX2_isGate_16 : decode cX2_isGate 16 = .ok (.iload_n 1, 1) := by decide +kernel
theorem dX2_isGate_17 : decode cX2_isGate 17 = .ok (.iaload, 1) := by decide +kernel
theorem dX2_isGate_18 : decode cX2_isGate 18 = .ok (.iconst 2, 1) := by decide +kernel
theorem dX2_isGate_19 : decode cX2_isGate 19 = .ok (.if_icmp .lt 7, 3) := by decide +kernel
theorem dX2_isGate_22 : decode cX2_isGate 22 = .ok (.iconst 1, 1) := by decide +kernel
theorem dX2_isGate_23 : decode cX2_isGate 23 = .ok (.goto 4, 3) := by decide +kernel
theorem dX2_isGate_26 : decode cX2_isGate 26 = .ok (.iconst 0, 1) := by decide +kernel
theorem dX2_isGate_27 : decode cX2_isGate 27 = .ok (.ireturn, 1) := by decide +kernel
theorem dX2_isLine_0 : decode cX2_isLine 0 = .ok (.iload_n 1, 1) := by decide +kernel
theorem dX2_isLine_1 : decode cX2_isLine 1 = .ok (.ifCond .lt 15, 3) := by decide +kernel
theorem dX2_isLine_4 : decode cX2_isLine 4 = .ok (.iload_n 1, 1) := by decide +kernel
theorem dX2_isLine_5 : decode cX2_isLine 5 = .ok (.aload_n 0, 1) := by decide +kernel
theorem dX2_isLine_6 : decode cX2_isLine 6 = .ok (.getfield 31, 3) := by decide +kernel
theorem dX2_isLine_9 : decode cX2_isLine 9 = .ok (.if_icmp .ge 7, 3) := by decide +kernel
theorem dX2_isLine_12 : decode cX2_isLine 12 = .ok (.iconst 1, 1) := by decide +kernel
theorem dX2_isLine_13 : decode cX2_isLine 13 = .ok (.goto 4, 3) := by decide +kernel
theorem dX2_isLine_16 : decode cX2_isLine 16 = .ok (.iconst 0, 1) := by decide +kernel
theorem dX2_isLine_17 : decode cX2_isLine 17 = .ok (.ireturn, 1) := by decide +kernel
theorem dX2_addNode_0 : decode cX2_addNode 0 = .ok (.iload_n 1, 1) := by decide +kernel
theorem dX2_addNode_1 : decode cX2_addNode 1 = .ok (.ifCond .lt 17, 3) := by decide +kernel
theorem dX2_addNode_4 : decode cX2_addNode 4 = .ok (.iload_n 1, 1) := by decide +kernel
theorem dX2_addNode_5 : decode cX2_addNode 5 = .ok (.iconst 3, 1) := by decide +kernel
theorem dX2_addNode_6 : decode cX2_addNode 6 = .ok (.if_icmp .gt 12, 3) := by decide +kernel
theorem dX2_addNode_9 : decode cX2_addNode 9 = .ok (.aload_n 0, 1) := by decide +kernel
theorem dX2_addNode_10 : decode cX2_addNode 10 = .ok (.getfield 27, 3) := by decide +kernel
theorem dX2_addNode_13 : decode cX2_addNode 13 = .ok (.bipush 12, 2) := by decide +kernel
theorem dX2_addNode_15 : decode cX2_addNode 15 = .ok (.if_icmp .lt 5, 3) := by decide +kernel
theorem dX2_addNode_18 : decode cX2_addNode 18 = .ok (.iconst (-1), 1) := by decide +kernel
theorem dX2_addNode_19 : decode cX2_addNode 19 = .ok (.ireturn, 1) := by decide +kernel
theorem dX2_addNode_20 : decode cX2_addNode 20 = .ok (.aload_n 0, 1) := by decide +kernel
theorem dX2_addNode_21 : decode cX2_addNode 21 = .ok (.getfield 9, 3) := by decide +kernel
theorem dX2_addNode_24 : decode cX2_addNode 24 = .ok (.aload_n 0, 1) := by decide +kernel
theorem dX2_addNode_25 : decode cX2_addNode 25 = .ok (.getfield 27, 3) := by decide +kernel
theorem dX2_addNode_28 : decode cX2_addNode 28 = .ok (.iload_n 1, 1) := by decide +kernel
theorem dX2_addNode_29 : decode cX2_addNode 29 = .ok (.iastore, 1) := by decide +kernel
theorem dX2_addNode_30 : decode cX2_addNode 30 = .ok (.iload_n 1, 1) := by decide +kernel
theorem dX2_addNode_31 : decode cX2_addNode 31 = .ok (.ifCond .ne 18, 3) := by decide +kernel
theorem dX2_addNode_34 : decode cX2_addNode 34 = .ok (.aload_n 0, 1) := by decide +kernel
theorem dX2_addNode_35 : decode cX2_addNode 35 = .ok (.dup, 1) := by decide +kernel
theorem dX2_addNode_36 : decode cX2_addNode 36 = .ok (.getfield 34, 3) := by decide +kernel
theorem dX2_addNode_39 : decode cX2_addNode 39 = .ok (.iconst 1, 1) := by decide +kernel
theorem dX2_addNode_40 : decode cX2_addNode 40 = .ok (.aload_n 0, 1) := by decide +kernel
theorem dX2_addNode_41 : decode cX2_addNode 41 = .ok (.getfield 27, 3) := by decide +kernel
theorem dX2_addNode_44 : decode cX2_addNode 44 = .ok (.ishl, 1) := by decide +kernel
theorem dX2_addNode_45 : decode cX2_addNode 45 = .ok (.ior, 1) := by decide +kernel
theorem dX2_addNode_46 : decode cX2_addNode 46 = .ok (.putfield 34, 3) := by decide +kernel
theorem dX2_addNode_49 : decode cX2_addNode 49 = .ok (.aload_n 0, 1) := by decide +kernel
theorem dX2_addNode_50 : decode cX2_addNode 50 = .ok (.dup, 1) := by decide +kernel
theorem dX2_addNode_51 : decode cX2_addNode 51 = .ok (.getfield 27, 3) := by decide +kernel
theorem dX2_addNode_54 : decode cX2_addNode 54 = .ok (.iconst 1, 1) := by decide +kernel
theorem dX2_addNode_55 : decode cX2_addNode 55 = .ok (.iadd, 1) := by decide +kernel
theorem dX2_addNode_56 : decode cX2_addNode 56 = .ok (.putfield 27, 3) := by decide +kernel
theorem dX2_addNode_59 : decode cX2_addNode 59 = .ok (.aload_n 0, 1) := by decide +kernel
theorem dX2_addNode_60 : decode cX2_addNode 60 = .ok (.getfield 27, 3) := by decide +kernel
theorem dX2_addNode_63 : decode cX2_addNode 63 = .ok (.iconst 1, 1) := by decide +kernel
theorem dX2_addNode_64 : decode cX2_addNode 64 = .ok (.isub, 1) := by decide +kernel
theorem dX2_addNode_65 : decode cX2_addNode 65 = .ok (.ireturn, 1) := by decide +kernel
theorem dX2_addLine_0 : decode cX2_addLine 0 = .ok (.aload_n 0, 1) := by decide +kernel
theorem dX2_addLine_1 : decode cX2_addLine 1 = .ok (.iload_n 1, 1) := by decide +kernel
theorem dX2_addLine_2 : decode cX2_addLine 2 = .ok (.invokevirtual 43, 3) := by decide +kernel
theorem dX2_addLine_5 : decode cX2_addLine 5 = .ok (.ifCond .eq 29, 3) := by decide +kernel
theorem dX2_addLine_8 : decode cX2_addLine 8 = .ok (.aload_n 0, 1) := by decide +kernel
theorem dX2_addLine_9 : decode cX2_addLine 9 = .ok (.iload_n 2, 1) := by decide +kernel
theorem dX2_addLine_10 : decode cX2_addLine 10 = .ok (.invokevirtual 43, 3) := by decide +kernel
theorem dX2_addLine_13 : decode cX2_addLine 13 = .ok (.ifCond .eq 21, 3) := by decide +kernel
theorem dX2_addLine_16 : decode cX2_addLine 16 = .ok (.iload_n 1, 1) := by decide +kernel
theorem dX2_addLine_17 : decode cX2_addLine 17 = .ok (.iload_n 2, 1) := by decide +kernel
theorem dX2_addLine_18 : decode cX2_addLine 18 = .ok (.if_icmp .eq 16, 3) := by decide +kernel
theorem dX2_addLine_21 : decode cX2_addLine 21 = .ok (.aload_n 0, 1) := by decide +kernel
theorem dX2_addLine_22 : decode cX2_addLine 22 = .ok (.getfield 31, 3) := by decide +kernel
theorem dX2_addLine_25 : decode cX2_addLine 25 = .ok (.bipush 20, 2) := by decide +kernel
theorem dX2_addLine_27 : decode cX2_addLine 27 = .ok (.if_icmp .ge 7, 3) := by decide +kernel
theorem dX2_addLine_30 : decode cX2_addLine 30 = .ok (.iconst 1, 1) := by decide +kernel
theorem dX2_addLine_31 : decode cX2_addLine 31 = .ok (.goto 4, 3) := by decide +kernel
theorem dX2_addLine_34 : decode cX2_addLine 34 = .ok (.iconst 0, 1) := by decide +kernel
theorem dX2_addLine_35 : decode cX2_addLine 35 = .ok (.istore_n 3, 1) := by decide +kernel
theorem dX2_addLine_36 : decode cX2_addLine 36 = .ok (.iload_n 3, 1) := by decide +kernel
theorem dX2_addLine_37 : decode cX2_addLine 37 = .ok (.ifCond .eq 16, 3) := by decide +kernel
theorem dX2_addLine_40 : decode cX2_addLine 40 = .ok (.aload_n 0, 1) := by decide +kernel
theorem dX2_addLine_41 : decode cX2_addLine 41 = .ok (.getfield 15, 3) := by decide +kernel
theorem dX2_addLine_44 : decode cX2_addLine 44 = .ok (.iload_n 1, 1) := by decide +kernel
theorem dX2_addLine_45 : decode cX2_addLine 45 = .ok (.iaload, 1) := by decide +kernel
theorem dX2_addLine_46 : decode cX2_addLine 46 = .ok (.iload_n 2, 1) := by decide +kernel
theorem dX2_addLine_47 : decode cX2_addLine 47 = .ok (.invokestatic 47, 3) := by decide +kernel
theorem dX2_addLine_50 : decode cX2_addLine 50 = .ok (.ifCond .eq 5, 3) := by decide +kernel
theorem dX2_addLine_53 : decode cX2_addLine 53 = .ok (.iconst (-1), 1) := by decide +kernel
theorem dX2_addLine_54 : decode cX2_addLine 54 = .ok (.ireturn, 1) := by decide +kernel
theorem dX2_addLine_55 : decode cX2_addLine 55 = .ok (.aload_n 0, 1) := by decide +kernel
theorem dX2_addLine_56 : decode cX2_addLine 56 = .ok (.getfield 18, 3) := by decide +kernel
theorem dX2_addLine_59 : decode cX2_addLine 59 = .ok (.iload_n 1, 1) := by decide +kernel
theorem dX2_addLine_60 : decode cX2_addLine 60 = .ok (.bipush 12, 2) := by decide +kernel
theorem dX2_addLine_62 : decode cX2_addLine 62 = .ok (.imul, 1) := by decide +kernel
theorem dX2_addLine_63 : decode cX2_addLine 63 = .ok (.iload_n 2, 1) := by decide +kernel
theorem dX2_addLine_64 : decode cX2_addLine 64 = .ok (.iadd, 1) := by decide +kernel
theorem dX2_addLine_65 : decode cX2_addLine 65 = .ok (.aload_n 0, 1) := by decide +kernel
theorem dX2_addLine_66 : decode cX2_addLine 66 = .ok (.getfield 31, 3) := by decide +kernel
theorem dX2_addLine_69 : decode cX2_addLine 69 = .ok (.iastore, 1) := by decide +kernel
theorem dX2_addLine_70 : decode cX2_addLine 70 = .ok (.aload_n 0, 1) := by decide +kernel
theorem dX2_addLine_71 : decode cX2_addLine 71 = .ok (.getfield 18, 3) := by decide +kernel
theorem dX2_addLine_74 : decode cX2_addLine 74 = .ok (.iload_n 2, 1) := by decide +kernel
theorem dX2_addLine_75 : decode cX2_addLine 75 = .ok (.bipush 12, 2) := by decide +kernel
theorem dX2_addLine_77 : decode cX2_addLine 77 = .ok (.imul, 1) := by decide +kernel
theorem dX2_addLine_78 : decode cX2_addLine 78 = .ok (.iload_n 1, 1) := by decide +kernel
theorem dX2_addLine_79 : decode cX2_addLine 79 = .ok (.iadd, 1) := by decide +kernel
theorem dX2_addLine_80 : decode cX2_addLine 80 = .ok (.aload_n 0, 1) := by decide +kernel
theorem dX2_addLine_81 : decode cX2_addLine 81 = .ok (.getfield 31, 3) := by decide +kernel
theorem dX2_addLine_84 : decode cX2_addLine 84 = .ok (.iastore, 1) := by decide +kernel
theorem dX2_addLine_85 : decode cX2_addLine 85 = .ok (.aload_n 0, 1) := by decide +kernel
theorem dX2_addLine_86 : decode cX2_addLine 86 = .ok (.getfield 15, 3) := by decide +kernel
theorem dX2_addLine_89 : decode cX2_addLine 89 = .ok (.iload_n 1, 1) := by decide +kernel
theorem dX2_addLine_90 : decode cX2_addLine 90 = .ok (.dup2, 1) := by decide +kernel
theorem dX2_addLine_91 : decode cX2_addLine 91 = .ok (.iaload, 1) := by decide +kernel
theorem dX2_addLine_92 : decode cX2_addLine 92 = .ok (.iconst 1, 1) := by decide +kernel
theorem dX2_addLine_93 : decode cX2_addLine 93 = .ok (.iload_n 2, 1) := by decide +kernel
theorem dX2_addLine_94 : decode cX2_addLine 94 = .ok (.ishl, 1) := by decide +kernel
theorem dX2_addLine_95 : decode cX2_addLine 95 = .ok (.ior, 1) := by decide +kernel
theorem dX2_addLine_96 : decode cX2_addLine 96 = .ok (.iastore, 1) := by decide +kernel
theorem dX2_addLine_97 : decode cX2_addLine 97 = .ok (.aload_n 0, 1) := by decide +kernel
theorem dX2_addLine_98 : decode cX2_addLine 98 = .ok (.getfield 15, 3) := by decide +kernel
theorem dX2_addLine_101 : decode cX2_addLine 101 = .ok (.iload_n 2, 1) := by decide +kernel
theorem dX2_addLine_102 : decode cX2_addLine 102 = .ok (.dup2, 1) := by decide +kernel
theorem dX2_addLine_103 : decode cX2_addLine 103 = .ok (.iaload, 1) := by decide +kernel
theorem dX2_addLine_104 : decode cX2_addLine 104 = .ok (.iconst 1, 1) := by decide +kernel
theorem dX2_addLine_105 : decode cX2_addLine 105 = .ok (.iload_n 1, 1) := by decide +kernel
theorem dX2_addLine_106 : decode cX2_addLine 106 = .ok (.ishl, 1) := by decide +kernel
theorem dX2_addLine_107 : decode cX2_addLine 107 = .ok (.ior, 1) := by decide +kernel
theorem dX2_addLine_108 : decode cX2_addLine 108 = .ok (.iastore, 1) := by decide +kernel
theorem dX2_addLine_109 : decode cX2_addLine 109 = .ok (.aload_n 0, 1) := by decide +kernel
theorem dX2_addLine_110 : decode cX2_addLine 110 = .ok (.dup, 1) := by decide +kernel
theorem dX2_addLine_111 : decode cX2_addLine 111 = .ok (.getfield 31, 3) := by decide +kernel
theorem dX2_addLine_114 : decode cX2_addLine 114 = .ok (.iconst 1, 1) := by decide +kernel
theorem dX2_addLine_115 : decode cX2_addLine 115 = .ok (.iadd, 1) := by decide +kernel
theorem dX2_addLine_116 : decode cX2_addLine 116 = .ok (.putfield 31, 3) := by decide +kernel
theorem dX2_addLine_119 : decode cX2_addLine 119 = .ok (.iconst 0, 1) := by decide +kernel
theorem dX2_addLine_120 : decode cX2_addLine 120 = .ok (.istore 4, 2) := by decide +kernel
theorem dX2_addLine_122 : decode cX2_addLine 122 = .ok (.iload 4, 2) := by decide +kernel
theorem dX2_addLine_124 : decode cX2_addLine 124 = .ok (.aload_n 0, 1) := by decide +kernel
theorem dX2_addLine_125 : decode cX2_addLine 125 = .ok (.getfield 27, 3) := by decide +kernel
theorem dX2_addLine_128 : decode cX2_addLine 128 = .ok (.if_icmp .ge 15, 3) := by decide +kernel
theorem dX2_addLine_131 : decode cX2_addLine 131 = .ok (.aload_n 0, 1) := by decide +kernel
theorem dX2_addLine_132 : decode cX2_addLine 132 = .ok (.iload 4, 2) := by decide +kernel
theorem dX2_addLine_134 : decode cX2_addLine 134 = .ok (.invokevirtual 51, 3) := by decide +kernel
theorem dX2_addLine_137 : decode cX2_addLine 137 = .ok (.iinc 4 1, 3) := by decide +kernel
theorem dX2_addLine_140 : decode cX2_addLine 140 = .ok (.goto (-18), 3) := by decide +kernel
theorem dX2_addLine_143 : decode cX2_addLine 143 = .ok (.aload_n 0, 1) := by decide +kernel
theorem dX2_addLine_144 : decode cX2_addLine 144 = .ok (.getfield 31, 3) := by decide +kernel
theorem dX2_addLine_147 : decode cX2_addLine 147 = .ok (.iconst 1, 1) := by decide +kernel
theorem dX2_addLine_148 : decode cX2_addLine 148 = .ok (.isub, 1) := by decide +kernel
theorem dX2_addLine_149 : decode cX2_addLine 149 = .ok (.ireturn, 1) := by decide +kernel
theorem dX2_findNearestFor_0 : decode cX2_findNearestFor 0 = .ok (.iconst 1, 1) := by decide +kernel
theorem dX2_findNearestFor_1 : decode cX2_findNearestFor 1 = .ok (.iload_n 1, 1) := by decide +kernel
theorem dX2_findNearestFor_2 : decode cX2_findNearestFor 2 = .ok (.ishl, 1) := by decide +kernel
theorem dX2_findNearestFor_3 : decode cX2_findNearestFor 3 = .ok (.istore_n 2, 1) := by decide +kernel
theorem dX2_findNearestFor_4 : decode cX2_findNearestFor 4 = .ok (.iload_n 2, 1) := by decide +kernel
theorem dX2_findNearestFor_5 : decode cX2_findNearestFor 5 = .ok (.istore_n 3, 1) := by decide +kernel
theorem dX2_findNearestFor_6 : decode cX2_findNearestFor 6 = .ok (.iconst 0, 1) := by decide +kernel
theorem dX2_findNearestFor_7 : decode cX2_findNearestFor 7 = .ok (.istore 4, 2) := by decide +kernel
theorem dX2_findNearestFor_9 : decode cX2_findNearestFor 9 = .ok (.iload 4, 2) := by decide +kernel
theorem dX2_findNearestFor_11 : decode cX2_findNearestFor 11 = .ok (.bipush 12, 2) := by decide +kernel
theorem dX2_findNearestFor_13 : decode cX2_findNearestFor 13 = .ok (.if_icmp .ge 100, 3) := by decide +kernel
theorem dX2_findNearestFor_16 : decode cX2_findNearestFor 16 = .ok (.iload_n 3, 1) := by decide +kernel
theorem dX2_findNearestFor_17 : decode cX2_findNearestFor 17 = .ok (.ifCond .eq 96, 3) := by decide +kernel
theorem dX2_findNearestFor_20 : decode cX2_findNearestFor 20 = .ok (.iconst 0, 1) := by decide +kernel
theorem dX2_findNearestFor_21 : decode cX2_findNearestFor 21 = .ok (.istore 5, 2) := by decide +kernel
theorem dX2_findNearestFor_23 : decode cX2_findNearestFor 23 = .ok (.iconst 0, 1) := by decide +kernel
theorem dX2_findNearestFor_24 : decode cX2_findNearestFor 24 = .ok (.istore 6, 2) := by decide +kernel
theorem dX2_findNearestFor_26 : decode cX2_findNearestFor 26 = .ok (.iload 6, 2) := by decide +kernel
theorem dX2_findNearestFor_28 : decode cX2_findNearestFor 28 = .ok (.aload_n 0, 1) := by decide +kernel
theorem dX2_findNearestFor_29 : decode cX2_findNearestFor 29 = .ok (.getfield 27, 3) := by decide +kernel
theorem dX2_findNearestFor_32 : decode cX2_findNearestFor 32 = .ok (.if_icmp .ge 60, 3) := by decide +kernel
theorem dX2_findNearestFor_35 : decode cX2_findNearestFor 35 = .ok (.aload_n 0, 1) := by decide +kernel
theorem dX2_findNearestFor_36 : decode cX2_findNearestFor 36 = .ok (.getfield 15, 3) := by decide +kernel
theorem dX2_findNearestFor_39 : decode cX2_findNearestFor 39 = .ok (.iload 6, 2) := by decide +kernel
theorem dX2_findNearestFor_41 : decode cX2_findNearestFor 41 = .ok (.iaload, 1) := by decide +kernel
theorem dX2_findNearestFor_42 : decode cX2_findNearestFor 42 = .ok (.iload_n 3, 1) := by decide +kernel
theorem dX2_findNearestFor_43 : decode cX2_findNearestFor 43 = .ok (.iand, 1) := by decide +kernel
theorem dX2_findNearestFor_44 : decode cX2_findNearestFor 44 = .ok (.istore 7, 2) := by decide +kernel
theorem dX2_findNearestFor_46 : decode cX2_findNearestFor 46 = .ok (.iload 7, 2) := by decide +kernel
theorem dX2_findNearestFor_48 : decode cX2_findNearestFor 48 = .ok (.ifCond .eq 38, 3) := by decide +kernel
theorem dX2_findNearestFor_51 : decode cX2_findNearestFor 51 = .ok (.iload_n 2, 1) := by decide +kernel
theorem dX2_findNearestFor_52 : decode cX2_findNearestFor 52 = .ok (.iload 6, 2) := by decide +kernel
theorem dX2_findNearestFor_54 : decode cX2_findNearestFor 54 = .ok (.invokestatic 47, 3) := by decide +kernel
theorem dX2_findNearestFor_57 : decode cX2_findNearestFor 57 = .ok (.ifCond .ne 29, 3) := by decide +kernel
theorem dX2_findNearestFor_60 : decode cX2_findNearestFor 60 = .ok (.aload_n 0, 1) := by decide +kernel
theorem dX2_findNearestFor_61 : decode cX2_findNearestFor 61 = .ok (.getfield 21, 3) := by decide +kernel
theorem dX2_findNearestFor_64 : decode cX2_findNearestFor 64 = .ok (.iload 6, 2) := by decide +kernel
theorem dX2_findNearestFor_66 : decode cX2_findNearestFor 66 = .ok (.bipush 12, 2) := by decide +kernel
theorem dX2_findNearestFor_68 : decode cX2_findNearestFor 68 = .ok (.imul, 1) := by decide +kernel
theorem dX2_findNearestFor_69 : decode cX2_findNearestFor 69 = .ok (.iload_n 1, 1) := by decide +kernel
theorem dX2_findNearestFor_70 : decode cX2_findNearestFor 70 = .ok (.iadd, 1) := by decide +kernel
theorem dX2_findNearestFor_71 : decode cX2_findNearestFor 71 = .ok (.iload 7, 2) := by decide +kernel
theorem dX2_findNearestFor_73 : decode cX2_findNearestFor 73 = .ok (.invokestatic 55, 3) := by decide +kernel
theorem dX2_findNearestFor_76 : decode cX2_findNearestFor 76 = .ok (.iastore, 1) := by decide +kernel
theorem dX2_findNearestFor_77 : decode cX2_findNearestFor 77 = .ok (.iload 5, 2) := by decide +kernel
theorem dX2_findNearestFor_79 : decode cX2_findNearestFor 79 = .ok (.iconst 1, 1) := by decide +kernel
theorem dX2_findNearestFor_80 : decode cX2_findNearestFor 80 = .ok (.iload 6, 2) := by decide +kernel
theorem dX2_findNearestFor_82 : decode cX2_findNearestFor 82 = .ok (.ishl, 1) := by decide +kernel
theorem dX2_findNearestFor_83 : decode cX2_findNearestFor 83 = .ok (.ior, 1) := by decide +kernel
theorem dX2_findNearestFor_84 : decode cX2_findNearestFor 84 = .ok (.istore 5, 2) := by decide +kernel
theorem dX2_findNearestFor_86 : decode cX2_findNearestFor 86 = .ok (.iinc 6 1, 3) := by decide +kernel
theorem dX2_findNearestFor_89 : decode cX2_findNearestFor 89 = .ok (.goto (-63), 3) := by decide +kernel
theorem dX2_findNearestFor_92 : decode cX2_findNearestFor 92 = .ok (.iload_n 2, 1) := by decide +kernel
theorem dX2_findNearestFor_93 : decode cX2_findNearestFor 93 = .ok (.iload 5, 2) := by decide +kernel
theorem dX2_findNearestFor_95 : decode cX2_findNearestFor 95 = .ok (.ior, 1) := by decide +kernel
theorem dX2_findNearestFor_96 : decode cX2_findNearestFor 96 = .ok (.istore_n 2, 1) := by decide +kernel
theorem dX2_findNearestFor_97 : decode cX2_findNearestFor 97 = .ok (.iload 5, 2) := by decide +kernel
theorem dX2_findNearestFor_99 : decode cX2_findNearestFor 99 = .ok (.aload_n 0, 1) := by decide +kernel
theorem dX2_findNearestFor_100 : decode cX2_findNearestFor 100 = .ok (.getfield 34, 3) := by decide +kernel
theorem dX2_findNearestFor_103 : decode cX2_findNearestFor 103 = .ok (.iconst (-1), 1) := by decide +kernel
theorem dX2_findNearestFor_104 : decode cX2_findNearestFor 104 = .ok (.ixor, 1) := by decide +kernel
theorem dX2_findNearestFor_105 : decode cX2_findNearestFor 105 = .ok (.iand, 1) := by decide +kernel
theorem dX2_findNearestFor_106 : decode cX2_findNearestFor 106 = .ok (.istore_n 3, 1) := by decide +kernel
theorem dX2_findNearestFor_107 : decode cX2_findNearestFor 107 = .ok (.iinc 4 1, 3) := by decide +kernel
theorem dX2_findNearestFor_110 : decode cX2_findNearestFor 110 = .ok (.goto (-101), 3) := by decide +kernel
theorem dX2_findNearestFor_113 : decode cX2_findNearestFor 113 = .ok (.return_, 1) := by decide +kernel
theorem dX2_nearestOf_0 : decode cX2_nearestOf 0 = .ok (.iload_n 1, 1) := by decide +kernel
theorem dX2_nearestOf_1 : decode cX2_nearestOf 1 = .ok (.bipush 12, 2) := by decide +kernel
theorem dX2_nearestOf_3 : decode cX2_nearestOf 3 = .ok (.imul, 1) := by decide +kernel
theorem dX2_nearestOf_4 : decode cX2_nearestOf 4 = .ok (.iload_n 2, 1) := by decide +kernel
theorem dX2_nearestOf_5 : decode cX2_nearestOf 5 = .ok (.iadd, 1) := by decide +kernel
theorem dX2_nearestOf_6 : decode cX2_nearestOf 6 = .ok (.istore_n 3, 1) := by decide +kernel
theorem dX2_nearestOf_7 : decode cX2_nearestOf 7 = .ok (.iload_n 3, 1) := by decide +kernel
theorem dX2_nearestOf_8 : decode cX2_nearestOf 8 = .ok (.ifCond .lt 21, 3) := by decide +kernel
theorem dX2_nearestOf_11 : decode cX2_nearestOf 11 = .ok (.iload_n 3, 1) := by decide +kernel
theorem dX2_nearestOf_12 : decode cX2_nearestOf 12 = .ok (.aload_n 0, 1) := by decide +kernel
theorem dX2_nearestOf_13 : decode cX2_nearestOf 13 = .ok (.getfield 21, 3) := by decide +kernel
theorem dX2_nearestOf_16 : decode cX2_nearestOf 16 = .ok (.arraylength, 1) := by decide +kernel
theorem dX2_nearestOf_17 : decode cX2_nearestOf 17 = .ok (.if_icmp .ge 12, 3) := by decide +kernel
theorem dX2_nearestOf_20 : decode cX2_nearestOf 20 = .ok (.aload_n 0, 1) := by decide +kernel
theorem dX2_nearestOf_21 : decode cX2_nearestOf 21 = .ok (.getfield 21, 3) := by decide +kernel
theorem dX2_nearestOf_24 : decode cX2_nearestOf 24 = .ok (.iload_n 3, 1) := by decide +kernel
theorem dX2_nearestOf_25 : decode cX2_nearestOf 25 = .ok (.iaload, 1) := by decide +kernel
theorem dX2_nearestOf_26 : decode cX2_nearestOf 26 = .ok (.goto 4, 3) := by decide +kernel
theorem dX2_nearestOf_29 : decode cX2_nearestOf 29 = .ok (.iconst (-1), 1) := by decide +kernel
theorem dX2_nearestOf_30 : decode cX2_nearestOf 30 = .ok (.ireturn, 1) := by decide +kernel
theorem dX2_lineBetween_0 : decode cX2_lineBetween 0 = .ok (.iload_n 1, 1) := by decide +kernel
theorem dX2_lineBetween_1 : decode cX2_lineBetween 1 = .ok (.bipush 12, 2) := by decide +kernel
theorem dX2_lineBetween_3 : decode cX2_lineBetween 3 = .ok (.imul, 1) := by decide +kernel
theorem dX2_lineBetween_4 : decode cX2_lineBetween 4 = .ok (.iload_n 2, 1) := by decide +kernel
theorem dX2_lineBetween_5 : decode cX2_lineBetween 5 = .ok (.iadd, 1) := by decide +kernel
theorem dX2_lineBetween_6 : decode cX2_lineBetween 6 = .ok (.istore_n 3, 1) := by decide +kernel
theorem dX2_lineBetween_7 : decode cX2_lineBetween 7 = .ok (.iload_n 1, 1) := by decide +kernel
theorem dX2_lineBetween_8 : decode cX2_lineBetween 8 = .ok (.ifCond .lt 20, 3) := by decide +kernel
theorem dX2_lineBetween_11 : decode cX2_lineBetween 11 = .ok (.iload_n 2, 1) := by decide +kernel
theorem dX2_lineBetween_12 : decode cX2_lineBetween 12 = .ok (.ifCond .lt 16, 3) := by decide +kernel
theorem dX2_lineBetween_15 : decode cX2_lineBetween 15 = .ok (.iload_n 3, 1) := by decide +kernel
theorem dX2_lineBetween_16 : decode cX2_lineBetween 16 = .ok (.aload_n 0, 1) := by decide +kernel
theorem dX2_lineBetween_17 : decode cX2_lineBetween 17 = .ok (.getfield 18, 3) := by decide +kernel
theorem dX2_lineBetween_20 : decode cX2_lineBetween 20 = .ok (.arraylength, 1) := by decide +kernel
theorem dX2_lineBetween_21 : decode cX2_lineBetween 21 = .ok (.if_icmp .ge 7, 3) := by decide +kernel
theorem dX2_lineBetween_24 : decode cX2_lineBetween 24 = .ok (.iconst 1, 1) := by decide +kernel
theorem dX2_lineBetween_25 : decode cX2_lineBetween 25 = .ok (.goto 4, 3) := by decide +kernel
theorem dX2_lineBetween_28 : decode cX2_lineBetween 28 = .ok (.iconst 0, 1) := by decide +kernel
theorem dX2_lineBetween_29 : decode cX2_lineBetween 29 = .ok (.istore 4, 2) := by decide +kernel
theorem dX2_lineBetween_31 : decode cX2_lineBetween 31 = .ok (.iload 4, 2) := by decide +kernel
theorem dX2_lineBetween_33 : decode cX2_lineBetween 33 = .ok (.ifCond .eq 12, 3) := by decide +kernel
theorem dX2_lineBetween_36 : decode cX2_lineBetween 36 = .ok (.aload_n 0, 1) := by decide +kernel
theorem dX2_lineBetween_37 : decode cX2_lineBetween 37 = .ok (.getfield 18, 3) := by decide +kernel
theorem dX2_lineBetween_40 : decode cX2_lineBetween 40 = .ok (.iload_n 3, 1) := by decide +kernel
theorem dX2_lineBetween_41 : decode cX2_lineBetween 41 = .ok (.iaload, 1) := by decide +kernel
theorem dX2_lineBetween_42 : decode cX2_lineBetween 42 = .ok (.goto 4, 3) := by decide +kernel
theorem dX2_lineBetween_45 : decode cX2_lineBetween 45 = .ok (.iconst (-1), 1) := by decide +kernel
theorem dX2_lineBetween_46 : decode cX2_lineBetween 46 = .ok (.ireturn, 1) := by decide +kernel
theorem dX3_init_0 : decode cX3_init 0 = .ok (.aload_n 0, 1) := by decide +kernel
theorem dX3_init_1 : decode cX3_init 1 = .ok (.invokespecial 3, 3) := by decide +kernel
theorem dX3_init_4 : decode cX3_init 4 = .ok (.aload_n 0, 1) := by decide +kernel
theorem dX3_init_5 : decode cX3_init 5 = .ok (.bipush 31, 2) := by decide +kernel
theorem dX3_init_7 : decode cX3_init 7 = .ok (.newarray .int, 2) := by decide +kernel
theorem dX3_init_9 : decode cX3_init 9 = .ok (.putfield 9, 3) := by decide +kernel
theorem dX3_init_12 : decode cX3_init 12 = .ok (.aload_n 0, 1) := by decide +kernel
theorem dX3_init_13 : decode cX3_init 13 = .ok (.aload_n 1, 1) := by decide +kernel
theorem dX3_init_14 : decode cX3_init 14 = .ok (.putfield 15, 3) := by decide +kernel
theorem dX3_init_17 : decode cX3_init 17 = .ok (.return_, 1) := by decide +kernel
theorem dX3_nextOf_0 : decode cX3_nextOf 0 = .ok (.aload_n 1, 1) := by decide +kernel
theorem dX3_nextOf_1 : decode cX3_nextOf 1 = .ok (.iload_n 2, 1) := by decide +kernel
theorem dX3_nextOf_2 : decode cX3_nextOf 2 = .ok (.iload_n 3, 1) := by decide +kernel
theorem dX3_nextOf_3 : decode cX3_nextOf 3 = .ok (.aload_n 0, 1) := by decide +kernel
theorem dX3_nextOf_4 : decode cX3_nextOf 4 = .ok (.getfield 15, 3) := by decide +kernel
theorem dX3_nextOf_7 : decode cX3_nextOf 7 = .ok (.iload_n 2, 1) := by decide +kernel
theorem dX3_nextOf_8 : decode cX3_nextOf 8 = .ok (.iload_n 3, 1) := by decide +kernel
theorem dX3_nextOf_9 : decode cX3_nextOf 9 = .ok (.invokevirtual 19, 3) := by decide +kernel
theorem dX3_nextOf_12 : decode cX3_nextOf 12 = .ok (.invokevirtual 25, 3) := by decide +kernel
theorem dX3_nextOf_15 : decode cX3_nextOf 15 = .ok (.ireturn, 1) := by decide +kernel
theorem dX3_carry_0 : decode cX3_carry 0 = .ok (.iload_n 3, 1) := by decide +kernel
theorem dX3_carry_1 : decode cX3_carry 1 = .ok (.istore 5, 2) := by decide +kernel
theorem dX3_carry_3 : decode cX3_carry 3 = .ok (.aload_n 0, 1) := by decide +kernel
theorem dX3_carry_4 : decode cX3_carry 4 = .ok (.getfield 9, 3) := by decide +kernel
theorem dX3_carry_7 : decode cX3_carry 7 = .ok (.iconst 0, 1) := by decide +kernel
theorem dX3_carry_8 : decode cX3_carry 8 = .ok (.iload_n 3, 1) := by decide +kernel
theorem dX3_carry_9 : decode cX3_carry 9 = .ok (.iastore, 1) := by decide +kernel
theorem dX3_carry_10 : decode cX3_carry 10 = .ok (.aload_n 0, 1) := by decide +kernel
theorem dX3_carry_11 : decode cX3_carry 11 = .ok (.iconst 1, 1) := by decide +kernel
theorem dX3_carry_12 : decode cX3_carry 12 = .ok (.putfield 31, 3) := by decide +kernel
theorem dX3_carry_15 : decode cX3_carry 15 = .ok (.iload 5, 2) := by decide +kernel
theorem dX3_carry_17 : decode cX3_carry 17 = .ok (.iload 4, 2) := by decide +kernel
theorem dX3_carry_19 : decode cX3_carry 19 = .ok (.if_icmp .eq 128, 3) := by decide +kernel
theorem dX3_carry_22 : decode cX3_carry 22 = .ok (.aload_n 0, 1) := by decide +kernel
theorem dX3_carry_23 : decode cX3_carry 23 = .ok (.getfield 31, 3) := by decide +kernel
theorem dX3_carry_26 : decode cX3_carry 26 = .ok (.aload_n 0, 1) := by decide +kernel
theorem dX3_carry_27 : decode cX3_carry 27 = .ok (.getfield 9, 3) := by decide +kernel
theorem dX3_carry_30 : decode cX3_carry 30 = .ok (.arraylength, 1) := by decide +kernel
theorem dX3_carry_31 : decode cX3_carry 31 = .ok (.if_icmp .ge 116, 3) := by decide +kernel
theorem dX3_carry_34 : decode cX3_carry 34 = .ok (.iload 5, 2) := by decide +kernel
theorem dX3_carry_36 : decode cX3_carry 36 = .ok (.iload_n 3, 1) := by decide +kernel
theorem dX3_carry_37 : decode cX3_carry 37 = .ok (.if_icmp .eq 19, 3) := by decide +kernel
theorem dX3_carry_40 : decode cX3_carry 40 = .ok (.aload_n 0, 1) := by decide +kernel
theorem dX3_carry_41 : decode cX3_carry 41 = .ok (.getfield 15, 3) := by decide +kernel
theorem dX3_carry_44 : decode cX3_carry 44 = .ok (.iload 5, 2) := by decide +kernel
theorem dX3_carry_46 : decode cX3_carry 46 = .ok (.invokevirtual 35, 3) := by decide +kernel
theorem dX3_carry_49 : decode cX3_carry 49 = .ok (.ifCond .eq 7, 3) := by decide +kernel
theorem dX3_carry_52 : decode cX3_carry 52 = .ok (.iconst 1, 1) := by decide +kernel
theorem dX3_carry_53 : decode cX3_carry 53 = .ok (.goto 4, 3) := by decide +kernel
theorem dX3_carry_56 : decode cX3_carry 56 = .ok (.iconst 0, 1) := by decide +kernel
theorem dX3_carry_57 : decode cX3_carry 57 = .ok (.istore 6, 2) := by decide +kernel
theorem dX3_carry_59 : decode cX3_carry 59 = .ok (.iload 6, 2) := by decide +kernel
theorem dX3_carry_61 : decode cX3_carry 61 = .ok (.ifCond .ne 15, 3) := by decide +kernel
theorem dX3_carry_64 : decode cX3_carry 64 = .ok (.aload_n 1, 1) := by decide +kernel
theorem dX3_carry_65 : decode cX3_carry 65 = .ok (.iload 5, 2) := by decide +kernel
theorem dX3_carry_67 : decode cX3_carry 67 = .ok (.iload 4, 2) := by decide +kernel
theorem dX3_carry_69 : decode cX3_carry 69 = .ok (.iload_n 2, 1) := by decide +kernel
theorem dX3_carry_70 : decode cX3_carry 70 = .ok (.invokevirtual 39, 3) := by decide +kernel
theorem dX3_carry_73 : decode cX3_carry 73 = .ok (.ifCond .eq 5, 3) := by decide +kernel
theorem dX3_carry_76 : decode cX3_carry 76 = .ok (.iconst 0, 1) := by decide +kernel
theorem dX3_carry_77 : decode cX3_carry 77 = .ok (.ireturn, 1) := by decide +kernel
theorem dX3_carry_78 : decode cX3_carry 78 = .ok (.aload_n 1, 1) := by decide +kernel
theorem dX3_carry_79 : decode cX3_carry 79 = .ok (.iload 5, 2) := by decide +kernel
theorem dX3_carry_81 : decode cX3_carry 81 = .ok (.iload 4, 2) := by decide +kernel
theorem dX3_carry_83 : decode cX3_carry 83 = .ok (.aload_n 0, 1) := by decide +kernel
theorem dX3_carry_84 : decode cX3_carry 84 = .ok (.getfield 15, 3) := by decide +kernel
theorem dX3_carry_87 : decode cX3_carry 87 = .ok (.iload 5, 2) := by decide +kernel
theorem dX3_carry_89 : decode cX3_carry 89 = .ok (.iload 4, 2) := by decide +kernel
theorem dX3_carry_91 : decode cX3_carry 91 = .ok (.invokevirtual 19, 3) := by decide +kernel
theorem dX3_carry_94 : decode cX3_carry 94 = .ok (.invokevirtual 25, 3) := by decide +kernel
theorem dX3_carry_97 : decode cX3_carry 97 = .ok (.istore 7, 2) := by decide +kernel
theorem dX3_carry_99 : decode cX3_carry 99 = .ok (.aload_n 1, 1) := by decide +kernel
theorem dX3_carry_100 : decode cX3_carry 100 = .ok (.aload_n 0, 1) := by decide +kernel
theorem dX3_carry_101 : decode cX3_carry 101 = .ok (.getfield 15, 3) := by decide +kernel
theorem dX3_carry_104 : decode cX3_carry 104 = .ok (.iload 5, 2) := by decide +kernel
theorem dX3_carry_106 : decode cX3_carry 106 = .ok (.iload 7, 2) := by decide +kernel
theorem dX3_carry_108 : decode cX3_carry 108 = .ok (.invokevirtual 43, 3) := by decide +kernel
theorem dX3_carry_111 : decode cX3_carry 111 = .ok (.invokevirtual 46, 3) := by decide +kernel
theorem dX3_carry_114 : decode cX3_carry 114 = .ok (.ifCond .eq 5, 3) := by decide +kernel
theorem dX3_carry_117 : decode cX3_carry 117 = .ok (.iconst 0, 1) := by decide +kernel
theorem dX3_carry_118 : decode cX3_carry 118 = .ok (.ireturn, 1) := by decide +kernel
theorem dX3_carry_119 : decode cX3_carry 119 = .ok (.iload 7, 2) := by decide +kernel
theorem dX3_carry_121 : decode cX3_carry 121 = .ok (.istore 5, 2) := by decide +kernel
theorem dX3_carry_123 : decode cX3_carry 123 = .ok (.aload_n 0, 1) := by decide +kernel
theorem dX3_carry_124 : decode cX3_carry 124 = .ok (.getfield 9, 3) := by decide +kernel
theorem dX3_carry_127 : decode cX3_carry 127 = .ok (.aload_n 0, 1) := by decide +kernel
theorem dX3_carry_128 : decode cX3_carry 128 = .ok (.getfield 31, 3) := by decide +kernel
theorem dX3_carry_131 : decode cX3_carry 131 = .ok (.iload 5, 2) := by decide +kernel
theorem dX3_carry_133 : decode cX3_carry 133 = .ok (.iastore, 1) := by decide +kernel
theorem dX3_carry_134 : decode cX3_carry 134 = .ok (.aload_n 0, 1) := by decide +kernel
theorem dX3_carry_135 : decode cX3_carry 135 = .ok (.dup, 1) := by decide +kernel
theorem dX3_carry_136 : decode cX3_carry 136 = .ok (.getfield 31, 3) := by decide +kernel
theorem dX3_carry_139 : decode cX3_carry 139 = .ok (.iconst 1, 1) := by decide +kernel
theorem dX3_carry_140 : decode cX3_carry 140 = .ok (.iadd, 1) := by decide +kernel
theorem dX3_carry_141 : decode cX3_carry 141 = .ok (.putfield 31, 3) := by decide +kernel
theorem dX3_carry_144 : decode cX3_carry 144 = .ok (.goto (-129), 3) := by decide +kernel
theorem dX3_carry_147 : decode cX3_carry 147 = .ok (.iload 5, 2) := by decide +kernel
theorem dX3_carry_149 : decode cX3_carry 149 = .ok (.iload 4, 2) := by decide +kernel
theorem dX3_carry_151 : decode cX3_carry 151 = .ok (.if_icmp .ne 16, 3) := by decide +kernel
theorem dX3_carry_154 : decode cX3_carry 154 = .ok (.aload_n 1, 1) := by decide +kernel
theorem dX3_carry_155 : decode cX3_carry 155 = .ok (.iload 4, 2) := by decide +kernel
theorem dX3_carry_157 : decode cX3_carry 157 = .ok (.invokevirtual 49, 3) := by decide +kernel
theorem dX3_carry_160 : decode cX3_carry 160 = .ok (.ifCond .ne 7, 3) := by decide +kernel
theorem dX3_carry_163 : decode cX3_carry 163 = .ok (.iconst 1, 1) := by decide +kernel
theorem dX3_carry_164 : decode cX3_carry 164 = .ok (.goto 4, 3) := by decide +kernel
theorem dX3_carry_167 : decode cX3_carry 167 = .ok (.iconst 0, 1) := by decide +kernel
theorem dX3_carry_168 : decode cX3_carry 168 = .ok (.ireturn, 1) := by decide +kernel
theorem dX3_comeBoth_0 : decode cX3_comeBoth 0 = .ok (.iload_n 3, 1) := by decide +kernel
theorem dX3_comeBoth_1 : decode cX3_comeBoth 1 = .ok (.iload 4, 2) := by decide +kernel
theorem dX3_comeBoth_3 : decode cX3_comeBoth 3 = .ok (.if_icmp .eq 27, 3) := by decide +kernel
theorem dX3_comeBoth_6 : decode cX3_comeBoth 6 = .ok (.aload_n 0, 1) := by decide +kernel
theorem dX3_comeBoth_7 : decode cX3_comeBoth 7 = .ok (.aload_n 1, 1) := by decide +kernel
theorem dX3_comeBoth_8 : decode cX3_comeBoth 8 = .ok (.iload_n 2, 1) := by decide +kernel
theorem dX3_comeBoth_9 : decode cX3_comeBoth 9 = .ok (.iload_n 3, 1) := by decide +kernel
theorem dX3_comeBoth_10 : decode cX3_comeBoth 10 = .ok (.iload 4, 2) := by decide +kernel
theorem dX3_comeBoth_12 : decode cX3_comeBoth 12 = .ok (.invokevirtual 52, 3) := by decide +kernel
theorem dX3_comeBoth_15 : decode cX3_comeBoth 15 = .ok (.ifCond .eq 19, 3) := by decide +kernel
theorem dX3_comeBoth_18 : decode cX3_comeBoth 18 = .ok (.aload_n 0, 1) := by decide +kernel
theorem dX3_comeBoth_19 : decode cX3_comeBoth 19 = .ok (.aload_n 1, 1) := by decide +kernel
theorem dX3_comeBoth_20 : decode cX3_comeBoth 20 = .ok (.iload_n 2, 1) := by decide +kernel
theorem dX3_comeBoth_21 : decode cX3_comeBoth 21 = .ok (.iload 4, 2) := by decide +kernel
theorem dX3_comeBoth_23 : decode cX3_comeBoth 23 = .ok (.iload_n 3, 1) := by decide +kernel
theorem dX3_comeBoth_24 : decode cX3_comeBoth 24 = .ok (.invokevirtual 52, 3) := by decide +kernel
theorem dX3_comeBoth_27 : decode cX3_comeBoth 27 = .ok (.ifCond .eq 7, 3) := by decide +kernel
theorem dX3_comeBoth_30 : decode cX3_comeBoth 30 = .ok (.iconst 1, 1) := by decide +kernel
theorem dX3_comeBoth_31 : decode cX3_comeBoth 31 = .ok (.goto 4, 3) := by decide +kernel
theorem dX3_comeBoth_34 : decode cX3_comeBoth 34 = .ok (.iconst 0, 1) := by decide +kernel
theorem dX3_comeBoth_35 : decode cX3_comeBoth 35 = .ok (.ireturn, 1) := by decide +kernel
theorem dX3_pathLength_0 : decode cX3_pathLength 0 = .ok (.aload_n 0, 1) := by decide +kernel
theorem dX3_pathLength_1 : decode cX3_pathLength 1 = .ok (.getfield 31, 3) := by decide +kernel
theorem dX3_pathLength_4 : decode cX3_pathLength 4 = .ok (.ireturn, 1) := by decide +kernel
theorem dX3_pathNode_0 : decode cX3_pathNode 0 = .ok (.iload_n 1, 1) := by decide +kernel
theorem dX3_pathNode_1 : decode cX3_pathNode 1 = .ok (.ifCond .lt 21, 3) := by decide +kernel
theorem dX3_pathNode_4 : decode cX3_pathNode 4 = .ok (.iload_n 1, 1) := by decide +kernel
theorem dX3_pathNode_5 : decode cX3_pathNode 5 = .ok (.aload_n 0, 1) := by decide +kernel
theorem dX3_pathNode_6 : decode cX3_pathNode 6 = .ok (.getfield 9, 3) := by decide +kernel
theorem dX3_pathNode_9 : decode cX3_pathNode 9 = .ok (.arraylength, 1) := by decide +kernel
theorem dX3_pathNode_10 : decode cX3_pathNode 10 = .ok (.if_icmp .ge 12, 3) := by decide +kernel
theorem dX3_pathNode_13 : decode cX3_pathNode 13 = .ok (.aload_n 0, 1) := by decide +kernel
theorem dX3_pathNode_14 : decode cX3_pathNode 14 = .ok (.getfield 9, 3) := by decide +kernel
theorem dX3_pathNode_17 : decode cX3_pathNode 17 = .ok (.iload_n 1, 1) := by decide +kernel
theorem dX3_pathNode_18 : decode cX3_pathNode 18 = .ok (.iaload, 1) := by decide +kernel
theorem dX3_pathNode_19 : decode cX3_pathNode 19 = .ok (.goto 4, 3) := by decide +kernel
theorem dX3_pathNode_22 : decode cX3_pathNode 22 = .ok (.iconst (-1), 1) := by decide +kernel
theorem dX3_pathNode_23 : decode cX3_pathNode 23 = .ok (.ireturn, 1) := by decide +kernel
theorem dX4_init_0 : decode cX4_init 0 = .ok (.aload_n 0, 1) := by decide +kernel
theorem dX4_init_1 : decode cX4_init 1 = .ok (.invokespecial 3, 3) := by decide +kernel
theorem dX4_init_4 : decode cX4_init 4 = .ok (.aload_n 0, 1) := by decide +kernel
theorem dX4_init_5 : decode cX4_init 5 = .ok (.bipush 31, 2) := by decide +kernel
theorem dX4_init_7 : decode cX4_init 7 = .ok (.newarray .int, 2) := by decide +kernel
theorem dX4_init_9 : decode cX4_init 9 = .ok (.putfield 9, 3) := by decide +kernel
theorem dX4_init_12 : decode cX4_init 12 = .ok (.return_, 1) := by decide +kernel
theorem dX4_reset_0 : decode cX4_reset 0 = .ok (.aload_n 0, 1) := by decide +kernel
theorem dX4_reset_1 : decode cX4_reset 1 = .ok (.iconst 0, 1) := by decide +kernel
theorem dX4_reset_2 : decode cX4_reset 2 = .ok (.putfield 15, 3) := by decide +kernel
theorem dX4_reset_5 : decode cX4_reset 5 = .ok (.return_, 1) := by decide +kernel
theorem dX4_size_0 : decode cX4_size 0 = .ok (.aload_n 0, 1) := by decide +kernel
theorem dX4_size_1 : decode cX4_size 1 = .ok (.getfield 15, 3) := by decide +kernel
theorem dX4_size_4 : decode cX4_size 4 = .ok (.ireturn, 1) := by decide +kernel
theorem dX4_add_0 : decode cX4_add 0 = .ok (.aload_n 0, 1) := by decide +kernel
theorem dX4_add_1 : decode cX4_add 1 = .ok (.getfield 15, 3) := by decide +kernel
theorem dX4_add_4 : decode cX4_add 4 = .ok (.aload_n 0, 1) := by decide +kernel
theorem dX4_add_5 : decode cX4_add 5 = .ok (.getfield 9, 3) := by decide +kernel
theorem dX4_add_8 : decode cX4_add 8 = .ok (.arraylength, 1) := by decide +kernel
theorem dX4_add_9 : decode cX4_add 9 = .ok (.if_icmp .ge 23, 3) := by decide +kernel
theorem dX4_add_12 : decode cX4_add 12 = .ok (.aload_n 0, 1) := by decide +kernel
theorem dX4_add_13 : decode cX4_add 13 = .ok (.getfield 9, 3) := by decide +kernel
theorem dX4_add_16 : decode cX4_add 16 = .ok (.aload_n 0, 1) := by decide +kernel
theorem dX4_add_17 : decode cX4_add 17 = .ok (.getfield 15, 3) := by decide +kernel
theorem dX4_add_20 : decode cX4_add 20 = .ok (.iload_n 1, 1) := by decide +kernel
theorem dX4_add_21 : decode cX4_add 21 = .ok (.iastore, 1) := by decide +kernel
theorem dX4_add_22 : decode cX4_add 22 = .ok (.aload_n 0, 1) := by decide +kernel
theorem dX4_add_23 : decode cX4_add 23 = .ok (.dup, 1) := by decide +kernel
theorem dX4_add_24 : decode cX4_add 24 = .ok (.getfield 15, 3) := by decide +kernel
theorem dX4_add_27 : decode cX4_add 27 = .ok (.iconst 1, 1) := by decide +kernel
theorem dX4_add_28 : decode cX4_add 28 = .ok (.iadd, 1) := by decide +kernel
theorem dX4_add_29 : decode cX4_add 29 = .ok (.putfield 15, 3) := by decide +kernel
theorem dX4_add_32 : decode cX4_add 32 = .ok (.return_, 1) := by decide +kernel
theorem dX4_get_0 : decode cX4_get 0 = .ok (.iload_n 1, 1) := by decide +kernel
theorem dX4_get_1 : decode cX4_get 1 = .ok (.ifCond .lt 20, 3) := by decide +kernel
theorem dX4_get_4 : decode cX4_get 4 = .ok (.iload_n 1, 1) := by decide +kernel
theorem dX4_get_5 : decode cX4_get 5 = .ok (.aload_n 0, 1) := by decide +kernel
theorem dX4_get_6 : decode cX4_get 6 = .ok (.getfield 15, 3) := by decide +kernel
theorem dX4_get_9 : decode cX4_get 9 = .ok (.if_icmp .ge 12, 3) := by decide +kernel
theorem dX4_get_12 : decode cX4_get 12 = .ok (.aload_n 0, 1) := by decide +kernel
theorem dX4_get_13 : decode cX4_get 13 = .ok (.getfield 9, 3) := by decide +kernel
theorem dX4_get_16 : decode cX4_get 16 = .ok (.iload_n 1, 1) := by decide +kernel
theorem dX4_get_17 : decode cX4_get 17 = .ok (.iaload, 1) := by decide +kernel
theorem dX4_get_18 : decode cX4_get 18 = .ok (.goto 4, 3) := by decide +kernel
theorem dX4_get_21 : decode cX4_get 21 = .ok (.iconst (-1), 1) := by decide +kernel
theorem dX4_get_22 : decode cX4_get 22 = .ok (.ireturn, 1) := by decide +kernel
theorem dX5_init_0 : decode cX5_init 0 = .ok (.aload_n 0, 1) := by decide +kernel
theorem dX5_init_1 : decode cX5_init 1 = .ok (.invokespecial 3, 3) := by decide +kernel
theorem dX5_init_4 : decode cX5_init 4 = .ok (.aload_n 0, 1) := by decide +kernel
theorem dX5_init_5 : decode cX5_init 5 = .ok (.sipush 144, 3) := by decide +kernel
theorem dX5_init_8 : decode cX5_init 8 = .ok (.newarray .int, 2) := by decide +kernel
theorem dX5_init_10 : decode cX5_init 10 = .ok (.putfield 9, 3) := by decide +kernel
theorem dX5_init_13 : decode cX5_init 13 = .ok (.aload_n 0, 1) := by decide +kernel
theorem dX5_init_14 : decode cX5_init 14 = .ok (.sipush 144, 3) := by decide +kernel
theorem dX5_init_17 : decode cX5_init 17 = .ok (.newarray .int, 2) := by decide +kernel
theorem dX5_init_19 : decode cX5_init 19 = .ok (.putfield 15, 3) := by decide +kernel
theorem dX5_init_22 : decode cX5_init 22 = .ok (.aload_n 0, 1) := by decide +kernel
theorem dX5_init_23 : decode cX5_init 23 = .ok (.bipush 12, 2) := by decide +kernel
theorem dX5_init_25 : decode cX5_init 25 = .ok (.newarray .int, 2) := by decide +kernel
theorem dX5_init_27 : decode cX5_init 27 = .ok (.putfield 18, 3) := by decide +kernel
theorem dX5_init_30 : decode cX5_init 30 = .ok (.aload_n 0, 1) := by decide +kernel
theorem dX5_init_31 : decode cX5_init 31 = .ok (.bipush 6, 2) := by decide +kernel
theorem dX5_init_33 : decode cX5_init 33 = .ok (.newarray .int, 2) := by decide +kernel
theorem dX5_init_35 : decode cX5_init 35 = .ok (.putfield 21, 3) := by decide +kernel
theorem dX5_init_38 : decode cX5_init 38 = .ok (.aload_n 0, 1) := by decide +kernel
theorem dX5_init_39 : decode cX5_init 39 = .ok (.invokevirtual 24, 3) := by decide +kernel
theorem dX5_init_42 : decode cX5_init 42 = .ok (.return_, 1) := by decide +kernel
theorem dX5_reset_0 : decode cX5_reset 0 = .ok (.aload_n 0, 1) := by decide +kernel
theorem dX5_reset_1 : decode cX5_reset 1 = .ok (.getfield 9, 3) := by decide +kernel
theorem dX5_reset_4 : decode cX5_reset 4 = .ok (.iconst (-1), 1) := by decide +kernel
theorem dX5_reset_5 : decode cX5_reset 5 = .ok (.invokestatic 27, 3) := by decide +kernel
theorem dX5_reset_8 : decode cX5_reset 8 = .ok (.aload_n 0, 1) := by decide +kernel
theorem dX5_reset_9 : decode cX5_reset 9 = .ok (.getfield 15, 3) := by decide +kernel
theorem dX5_reset_12 : decode cX5_reset 12 = .ok (.iconst 0, 1) := by decide +kernel
theorem dX5_reset_13 : decode cX5_reset 13 = .ok (.invokestatic 27, 3) := by decide +kernel
theorem dX5_reset_16 : decode cX5_reset 16 = .ok (.aload_n 0, 1) := by decide +kernel
theorem dX5_reset_17 : decode cX5_reset 17 = .ok (.getfield 18, 3) := by decide +kernel
theorem dX5_reset_20 : decode cX5_reset 20 = .ok (.bipush 15, 2) := by decide +kernel
theorem dX5_reset_22 : decode cX5_reset 22 = .ok (.invokestatic 27, 3) := by decide +kernel
theorem dX5_reset_25 : decode cX5_reset 25 = .ok (.aload_n 0, 1) := by decide +kernel
theorem dX5_reset_26 : decode cX5_reset 26 = .ok (.getfield 21, 3) := by decide +kernel
theorem dX5_reset_29 : decode cX5_reset 29 = .ok (.iconst (-1), 1) := by decide +kernel
theorem dX5_reset_30 : decode cX5_reset 30 = .ok (.invokestatic 27, 3) := by decide +kernel
theorem dX5_reset_33 : decode cX5_reset 33 = .ok (.aload_n 0, 1) := by decide +kernel
theorem dX5_reset_34 : decode cX5_reset 34 = .ok (.iconst (-1), 1) := by decide +kernel
theorem dX5_reset_35 : decode cX5_reset 35 = .ok (.putfield 33, 3) := by decide +kernel
theorem dX5_reset_38 : decode cX5_reset 38 = .ok (.aload_n 0, 1) := by decide +kernel
theorem dX5_reset_39 : decode cX5_reset 39 = .ok (.iconst 0, 1) := by decide +kernel
theorem dX5_reset_40 : decode cX5_reset 40 = .ok (.putfield 37, 3) := by decide +kernel
theorem dX5_reset_43 : decode cX5_reset 43 = .ok (.aload_n 0, 1) := by decide +kernel
theorem dX5_reset_44 : decode cX5_reset 44 = .ok (.iconst 0, 1) := by decide +kernel
theorem dX5_reset_45 : decode cX5_reset 45 = .ok (.putfield 40, 3) := by decide +kernel
theorem dX5_reset_48 : decode cX5_reset 48 = .ok (.return_, 1) := by decide +kernel
theorem dX5_copy_0 : decode cX5_copy 0 = .ok (.aload_n 1, 1) := by decide +kernel
theorem dX5_copy_1 : decode cX5_copy 1 = .ok (.getfield 9, 3) := by decide +kernel
theorem dX5_copy_4 : decode cX5_copy 4 = .ok (.iconst 0, 1) := by decide +kernel
theorem dX5_copy_5 : decode cX5_copy 5 = .ok (.aload_n 0, 1) := by decide +kernel
theorem dX5_copy_6 : decode cX5_copy 6 = .ok (.getfield 9, 3) := by decide +kernel
theorem dX5_copy_9 : decode cX5_copy 9 = .ok (.iconst 0, 1) := by decide +kernel
theorem dX5_copy_10 : decode cX5_copy 10 = .ok (.sipush 144, 3) := by decide +kernel
theorem dX5_copy_13 : decode cX5_copy 13 = .ok (.invokestatic 43, 3) := by decide +kernel
theorem dX5_copy_16 : decode cX5_copy 16 = .ok (.aload_n 1, 1) := by decide +kernel
theorem dX5_copy_17 : decode cX5_copy 17 = .ok (.getfield 15, 3) := by decide +kernel
theorem dX5_copy_20 : decode cX5_copy 20 = .ok (.iconst 0, 1) := by decide +kernel
theorem dX5_copy_21 : decode cX5_copy 21 = .ok (.aload_n 0, 1) := by decide +kernel
theorem dX5_copy_22 : decode cX5_copy 22 = .ok (.getfield 15, 3) := by decide +kernel
theorem dX5_copy_25 : decode cX5_copy 25 = .ok (.iconst 0, 1) := by decide +kernel
theorem dX5_copy_26 : decode cX5_copy 26 = .ok (.sipush 144, 3) := by decide +kernel
theorem dX5_copy_29 : decode cX5_copy 29 = .ok (.invokestatic 43, 3) := by decide +kernel
theorem dX5_copy_32 : decode cX5_copy 32 = .ok (.aload_n 1, 1) := by decide +kernel
theorem dX5_copy_33 : decode cX5_copy 33 = .ok (.getfield 18, 3) := by decide +kernel
theorem dX5_copy_36 : decode cX5_copy 36 = .ok (.iconst 0, 1) := by decide +kernel
theorem dX5_copy_37 : decode cX5_copy 37 = .ok (.aload_n 0, 1) := by decide +kernel
theorem dX5_copy_38 : decode cX5_copy 38 = .ok (.getfield 18, 3) := by decide +kernel
theorem dX5_copy_41 : decode cX5_copy 41 = .ok (.iconst 0, 1) := by decide +kernel
theorem dX5_copy_42 : decode cX5_copy 42 = .ok (.bipush 12, 2) := by decide +kernel
theorem dX5_copy_44 : decode cX5_copy 44 = .ok (.invokestatic 43, 3) := by decide +kernel
theorem dX5_copy_47 : decode cX5_copy 47 = .ok (.aload_n 1, 1) := by decide +kernel
theorem dX5_copy_48 : decode cX5_copy 48 = .ok (.getfield 21, 3) := by decide +kernel
theorem dX5_copy_51 : decode cX5_copy 51 = .ok (.iconst 0, 1) := by decide +kernel
theorem dX5_copy_52 : decode cX5_copy 52 = .ok (.aload_n 0, 1) := by decide +kernel
theorem dX5_copy_53 : decode cX5_copy 53 = .ok (.getfield 21, 3) := by decide +kernel
theorem dX5_copy_56 : decode cX5_copy 56 = .ok (.iconst 0, 1) := by decide +kernel
theorem dX5_copy_57 : decode cX5_copy 57 = .ok (.bipush 6, 2) := by decide +kernel
theorem dX5_copy_59 : decode cX5_copy 59 = .ok (.invokestatic 43, 3) := by decide +kernel
theorem dX5_copy_62 : decode cX5_copy 62 = .ok (.aload_n 0, 1) := by decide +kernel
theorem dX5_copy_63 : decode cX5_copy 63 = .ok (.aload_n 1, 1) := by decide +kernel
theorem dX5_copy_64 : decode cX5_copy 64 = .ok (.getfield 33, 3) := by decide +kernel
theorem dX5_copy_67 : decode cX5_copy 67 = .ok (.putfield 33, 3) := by decide +kernel
theorem dX5_copy_70 : decode cX5_copy 70 = .ok (.aload_n 0, 1) := by decide +kernel
theorem dX5_copy_71 : decode cX5_copy 71 = .ok (.aload_n 1, 1) := by decide +kernel
theorem dX5_copy_72 : decode cX5_copy 72 = .ok (.getfield 37, 3) := by decide +kernel
theorem dX5_copy_75 : decode cX5_copy 75 = .ok (.putfield 37, 3) := by decide +kernel
theorem dX5_copy_78 : decode cX5_copy 78 = .ok (.aload_n 0, 1) := by decide +kernel
theorem dX5_copy_79 : decode cX5_copy 79 = .ok (.aload_n 1, 1) := by decide +kernel
theorem dX5_copy_80 : decode cX5_copy 80 = .ok (.getfield 40, 3) := by decide +kernel
theorem dX5_copy_83 : decode cX5_copy 83 = .ok (.putfield 40, 3) := by decide +kernel
theorem dX5_copy_86 : decode cX5_copy 86 = .ok (.return_, 1) := by decide +kernel
theorem dX5_suffer_0 : decode cX5_suffer 0 = .ok (.iload_n 1, 1) := by decide +kernel
theorem dX5_suffer_1 : decode cX5_suffer 1 = .ok (.tableswitch 111 0 5 #[39, 54, 69, 78, 90, 101], 39) := by decide +kernel
theorem dX5_suffer_40 : decode cX5_suffer 40 = .ok (.aload_n 0, 1) := by decide +kernel
theorem dX5_suffer_41 : decode cX5_suffer 41 = .ok (.dup, 1) := by decide +kernel
theorem dX5_suffer_42 : decode cX5_suffer 42 = .ok (.getfield 37, 3) := by decide +kernel
theorem dX5_suffer_45 : decode cX5_suffer 45 = .ok (.iconst 1, 1) := by decide +kernel
theorem dX5_suffer_46 : decode cX5_suffer 46 = .ok (.iload_n 2, 1) := by decide +kernel
theorem dX5_suffer_47 : decode cX5_suffer 47 = .ok (.ishl, 1) := by decide +kernel
theorem dX5_suffer_48 : decode cX5_suffer 48 = .ok (.ior, 1) := by decide +kernel
theorem dX5_suffer_49 : decode cX5_suffer 49 = .ok (.putfield 37, 3) := by decide +kernel
theorem dX5_suffer_52 : decode cX5_suffer 52 = .ok (.goto 60, 3) := by decide +kernel
theorem dX5_suffer_55 : decode cX5_suffer 55 = .ok (.aload_n 0, 1) := by decide +kernel
theorem dX5_suffer_56 : decode cX5_suffer 56 = .ok (.dup, 1) := by decide +kernel
theorem dX5_suffer_57 : decode cX5_suffer 57 = .ok (.getfield 40, 3) := by decide +kernel
theorem dX5_suffer_60 : decode cX5_suffer 60 = .ok (.iconst 1, 1) := by decide +kernel
theorem dX5_suffer_61 : decode cX5_suffer 61 = .ok (.iload_n 2, 1) := by decide +kernel
theorem dX5_suffer_62 : decode cX5_suffer 62 = .ok (.ishl, 1) := by decide +kernel
theorem dX5_suffer_63 : decode cX5_suffer 63 = .ok (.ior, 1) := by decide +kernel
theorem dX5_suffer_64 : decode cX5_suffer 64 = .ok (.putfield 40, 3) := by decide +kernel
theorem dX5_suffer_67 : decode cX5_suffer 67 = .ok (.goto 45, 3) := by decide +kernel
theorem dX5_suffer_70 : decode cX5_suffer 70 = .ok (.aload_n 0, 1) := by decide +kernel
theorem dX5_suffer_71 : decode cX5_suffer 71 = .ok (.iload_n 2, 1) := by decide +kernel
theorem dX5_suffer_72 : decode cX5_suffer 72 = .ok (.iload_n 3, 1) := by decide +kernel
theorem dX5_suffer_73 : decode cX5_suffer 73 = .ok (.invokevirtual 49, 3) := by decide +kernel
theorem dX5_suffer_76 : decode cX5_suffer 76 = .ok (.goto 36, 3) := by decide +kernel
theorem dX5_suffer_79 : decode cX5_suffer 79 = .ok (.aload_n 0, 1) := by decide +kernel
theorem dX5_suffer_80 : decode cX5_suffer 80 = .ok (.iload_n 2, 1) := by decide +kernel
theorem dX5_suffer_81 : decode cX5_suffer 81 = .ok (.iload_n 3, 1) := by decide +kernel
theorem dX5_suffer_82 : decode cX5_suffer 82 = .ok (.iload 4, 2) := by decide +kernel
theorem dX5_suffer_84 : decode cX5_suffer 84 = .ok (.iconst 1, 1) := by decide +kernel
theorem dX5_suffer_85 : decode cX5_suffer 85 = .ok (.invokevirtual 53, 3) := by decide +kernel
theorem dX5_suffer_88 : decode cX5_suffer 88 = .ok (.goto 24, 3) := by decide +kernel
theorem dX5_suffer_91 : decode cX5_suffer 91 = .ok (.aload_n 0, 1) := by decide +kernel
theorem dX5_suffer_92 : decode cX5_suffer 92 = .ok (.iload_n 2, 1) := by decide +kernel
theorem dX5_suffer_93 : decode cX5_suffer 93 = .ok (.iload_n 3, 1) := by decide +kernel
theorem dX5_suffer_94 : decode cX5_suffer 94 = .ok (.iload 4, 2) := by decide +kernel
theorem dX5_suffer_96 : decode cX5_suffer 96 = .ok (.invokevirtual 57, 3) := by decide +kernel
theorem dX5_suffer_99 : decode cX5_suffer 99 = .ok (.goto 13, 3) := by decide +kernel
theorem dX5_suffer_102 : decode cX5_suffer 102 = .ok (.aload_n 0, 1) := by decide +kernel
theorem dX5_suffer_103 : decode cX5_suffer 103 = .ok (.iload_n 2, 1) := by decide +kernel
theorem dX5_suffer_104 : decode cX5_suffer 104 = .ok (.iload_n 3, 1) := by decide +kernel
theorem dX5_suffer_105 : decode cX5_suffer 105 = .ok (.iconst 0, 1) := by decide +kernel
theorem dX5_suffer_106 : decode cX5_suffer 106 = .ok (.invokevirtual 61, 3) := by decide +kernel
theorem dX5_suffer_109 : decode cX5_suffer 109 = .ok (.goto 3, 3) := by decide +kernel
theorem dX5_suffer_112 : decode cX5_suffer 112 = .ok (.return_, 1) := by decide +kernel
theorem dX5_setRoute_0 : decode cX5_setRoute 0 = .ok (.iload_n 1, 1) := by decide +kernel
theorem dX5_setRoute_1 : decode cX5_setRoute 1 = .ok (.bipush 12, 2) := by decide +kernel
theorem dX5_setRoute_3 : decode cX5_setRoute 3 = .ok (.imul, 1) := by decide +kernel
theorem dX5_setRoute_4 : decode cX5_setRoute 4 = .ok (.iload_n 2, 1) := by decide +kernel
theorem dX5_setRoute_5 : decode cX5_setRoute 5 = .ok (.iadd, 1) := by decide +kernel
theorem dX5_setRoute_6 : decode cX5_setRoute 6 = .ok (.istore 4, 2) := by decide +kernel
theorem dX5_setRoute_8 : decode cX5_setRoute 8 = .ok (.iload 4, 2) := by decide +kernel
theorem dX5_setRoute_10 : decode cX5_setRoute 10 = .ok (.ifCond .lt 21, 3) := by decide +kernel
theorem dX5_setRoute_13 : decode cX5_setRoute 13 = .ok (.iload 4, 2) := by decide +kernel
theorem dX5_setRoute_15 : decode cX5_setRoute 15 = .ok (.aload_n 0, 1) := by decide +kernel
theorem dX5_setRoute_16 : decode cX5_setRoute 16 = .ok (.getfield 9, 3) := by decide +kernel
theorem dX5_setRoute_19 : decode cX5_setRoute 19 = .ok (.arraylength, 1) := by decide +kernel
theorem dX5_setRoute_20 : decode cX5_setRoute 20 = .ok (.if_icmp .ge 11, 3) := by decide +kernel
theorem dX5_setRoute_23 : decode cX5_setRoute 23 = .ok (.aload_n 0, 1) := by decide +kernel
theorem dX5_setRoute_24 : decode cX5_setRoute 24 = .ok (.getfield 9, 3) := by decide +kernel
theorem dX5_setRoute_27 : decode cX5_setRoute 27 = .ok (.iload 4, 2) := by decide +kernel
theorem dX5_setRoute_29 : decode cX5_setRoute 29 = .ok (.iload_n 3, 1) := by decide +kernel
theorem dX5_setRoute_30 : decode cX5_setRoute 30 = .ok (.iastore, 1) := by decide +kernel
theorem dX5_setRoute_31 : decode cX5_setRoute 31 = .ok (.return_, 1) := by decide +kernel
theorem dX5_setDenied_0 : decode cX5_setDenied 0 = .ok (.iload_n 1, 1) := by decide +kernel
theorem dX5_setDenied_1 : decode cX5_setDenied 1 = .ok (.bipush 12, 2) := by decide +kernel
theorem dX5_setDenied_3 : decode cX5_setDenied 3 = .ok (.imul, 1) := by decide +kernel
theorem dX5_setDenied_4 : decode cX5_setDenied 4 = .ok (.iload_n 2, 1) := by decide +kernel
theorem dX5_setDenied_5 : decode cX5_setDenied 5 = .ok (.iadd, 1) := by decide +kernel
theorem dX5_setDenied_6 : decode cX5_setDenied 6 = .ok (.istore 5, 2) := by decide +kernel
theorem dX5_setDenied_8 : decode cX5_setDenied 8 = .ok (.iload 5, 2) := by decide +kernel
theorem dX5_setDenied_10 : decode cX5_setDenied 10 = .ok (.ifCond .lt 51, 3) := by decide +kernel
theorem dX5_setDenied_13 : decode cX5_setDenied 13 = .ok (.iload 5, 2) := by decide +kernel
theorem dX5_setDenied_15 : decode cX5_setDenied 15 = .ok (.aload_n 0, 1) := by decide +kernel
theorem dX5_setDenied_16 : decode cX5_setDenied 16 = .ok (.getfield 15, 3) := by decide +kernel
theorem dX5_setDenied_19 : decode cX5_setDenied 19 = .ok (.arraylength, 1) := by decide +kernel
theorem dX5_setDenied_20 : decode cX5_setDenied 20 = .ok (.if_icmp .ge 41, 3) := by decide +kernel
theorem dX5_setDenied_23 : decode cX5_setDenied 23 = .ok (.aload_n 0, 1) := by decide +kernel
theorem dX5_setDenied_24 : decode cX5_setDenied 24 = .ok (.getfield 15, 3) := by decide +kernel
theorem dX5_setDenied_27 : decode cX5_setDenied 27 = .ok (.iload 5, 2) := by decide +kernel
theorem dX5_setDenied_29 : decode cX5_setDenied 29 = .ok (.iaload, 1) := by decide +kernel
theorem dX5_setDenied_30 : decode cX5_setDenied 30 = .ok (.iconst 1, 1) := by decide +kernel
theorem dX5_setDenied_31 : decode cX5_setDenied 31 = .ok (.iload_n 3, 1) := by decide +kernel
theorem dX5_setDenied_32 : decode cX5_setDenied 32 = .ok (.ishl, 1) := by decide +kernel
theorem dX5_setDenied_33 : decode cX5_setDenied 33 = .ok (.iconst (-1), 1) := by decide +kernel
theorem dX5_setDenied_34 : decode cX5_setDenied 34 = .ok (.ixor, 1) := by decide +kernel
theorem dX5_setDenied_35 : decode cX5_setDenied 35 = .ok (.iand, 1) := by decide +kernel
theorem dX5_setDenied_36 : decode cX5_setDenied 36 = .ok (.istore 6, 2) := by decide +kernel
theorem dX5_setDenied_38 : decode cX5_setDenied 38 = .ok (.aload_n 0, 1) := by decide +kernel
theorem dX5_setDenied_39 : decode cX5_setDenied 39 = .ok (.getfield 15, 3) := by decide +kernel
theorem dX5_setDenied_42 : decode cX5_setDenied 42 = .ok (.iload 5, 2) := by decide +kernel
theorem dX5_setDenied_44 : decode cX5_setDenied 44 = .ok (.iload 4, 2) := by decide +kernel
theorem dX5_setDenied_46 : decode cX5_setDenied 46 = .ok (.ifCond .eq 12, 3) := by decide +kernel
theorem dX5_setDenied_49 : decode cX5_setDenied 49 = .ok (.iload 6, 2) := by decide +kernel
theorem dX5_setDenied_51 : decode cX5_setDenied 51 = .ok (.iconst 1, 1) := by decide +kernel
theorem dX5_setDenied_52 : decode cX5_setDenied 52 = .ok (.iload_n 3, 1) := by decide +kernel
theorem dX5_setDenied_53 : decode cX5_setDenied 53 = .ok (.ishl, 1) := by decide +kernel
theorem dX5_setDenied_54 : decode cX5_setDenied 54 = .ok (.ior, 1) := by decide +kernel
theorem dX5_setDenied_55 : decode cX5_setDenied 55 = .ok (.goto 5, 3) := by decide +kernel
theorem dX5_setDenied_58 : decode cX5_setDenied 58 = .ok (.iload 6, 2) := by decide +kernel
theorem dX5_setDenied_60 : decode cX5_setDenied 60 = .ok (.iastore, 1) := by decide +kernel
theorem dX5_setDenied_61 : decode cX5_setDenied 61 = .ok (.return_, 1) := by decide +kernel
theorem dX5_setOn_0 : decode cX5_setOn 0 = .ok (.iload_n 1, 1) := by decide +kernel
theorem dX5_setOn_1 : decode cX5_setOn 1 = .ok (.ifCond .lt 47, 3) := by decide +kernel
theorem dX5_setOn_4 : decode cX5_setOn 4 = .ok (.iload_n 1, 1) := by decide +kernel
theorem dX5_setOn_5 : decode cX5_setOn 5 = .ok (.aload_n 0, 1) := by decide +kernel
theorem dX5_setOn_6 : decode cX5_setOn 6 = .ok (.getfield 18, 3) := by decide +kernel
theorem dX5_setOn_9 : decode cX5_setOn 9 = .ok (.arraylength, 1) := by decide +kernel
theorem dX5_setOn_10 : decode cX5_setOn 10 = .ok (.if_icmp .ge 38, 3) := by decide +kernel
theorem dX5_setOn_13 : decode cX5_setOn 13 = .ok (.aload_n 0, 1) := by decide +kernel
theorem dX5_setOn_14 : decode cX5_setOn 14 = .ok (.getfield 18, 3) := by decide +kernel
theorem dX5_setOn_17 : decode cX5_setOn 17 = .ok (.iload_n 1, 1) := by decide +kernel
theorem dX5_setOn_18 : decode cX5_setOn 18 = .ok (.iaload, 1) := by decide +kernel
theorem dX5_setOn_19 : decode cX5_setOn 19 = .ok (.iconst 1, 1) := by decide +kernel
theorem dX5_setOn_20 : decode cX5_setOn 20 = .ok (.iload_n 2, 1) := by decide +kernel
theorem dX5_setOn_21 : decode cX5_setOn 21 = .ok (.ishl, 1) := by decide +kernel
theorem dX5_setOn_22 : decode cX5_setOn 22 = .ok (.iconst (-1), 1) := by decide +kernel
theorem dX5_setOn_23 : decode cX5_setOn 23 = .ok (.ixor, 1) := by decide +kernel
theorem dX5_setOn_24 : decode cX5_setOn 24 = .ok (.iand, 1) := by decide +kernel
theorem dX5_setOn_25 : decode cX5_setOn 25 = .ok (.istore 4, 2) := by decide +kernel
theorem dX5_setOn_27 : decode cX5_setOn 27 = .ok (.aload_n 0, 1) := by decide +kernel
theorem dX5_setOn_28 : decode cX5_setOn 28 = .ok (.getfield 18, 3) := by decide +kernel
theorem dX5_setOn_31 : decode cX5_setOn 31 = .ok (.iload_n 1, 1) := by decide +kernel
theorem dX5_setOn_32 : decode cX5_setOn 32 = .ok (.iload_n 3, 1) := by decide +kernel
theorem dX5_setOn_33 : decode cX5_setOn 33 = .ok (.ifCond .eq 12, 3) := by decide +kernel
theorem dX5_setOn_36 : decode cX5_setOn 36 = .ok (.iload 4, 2) := by decide +kernel
theorem dX5_setOn_38 : decode cX5_setOn 38 = .ok (.iconst 1, 1) := by decide +kernel
theorem dX5_setOn_39 : decode cX5_setOn 39 = .ok (.iload_n 2, 1) := by decide +kernel
theorem dX5_setOn_40 : decode cX5_setOn 40 = .ok (.ishl, 1) := by decide +kernel
theorem dX5_setOn_41 : decode cX5_setOn 41 = .ok (.ior, 1) := by decide +kernel
theorem dX5_setOn_42 : decode cX5_setOn 42 = .ok (.goto 5, 3) := by decide +kernel
theorem dX5_setOn_45 : decode cX5_setOn 45 = .ok (.iload 4, 2) := by decide +kernel
theorem dX5_setOn_47 : decode cX5_setOn 47 = .ok (.iastore, 1) := by decide +kernel
theorem dX5_setOn_48 : decode cX5_setOn 48 = .ok (.return_, 1) := by decide +kernel
theorem dX5_setName_0 : decode cX5_setName 0 = .ok (.iload_n 1, 1) := by decide +kernel
theorem dX5_setName_1 : decode cX5_setName 1 = .ok (.ifCond .lt 19, 3) := by decide +kernel
theorem dX5_setName_4 : decode cX5_setName 4 = .ok (.iload_n 1, 1) := by decide +kernel
theorem dX5_setName_5 : decode cX5_setName 5 = .ok (.aload_n 0, 1) := by decide +kernel
theorem dX5_setName_6 : decode cX5_setName 6 = .ok (.getfield 21, 3) := by decide +kernel
theorem dX5_setName_9 : decode cX5_setName 9 = .ok (.arraylength, 1) := by decide +kernel
theorem dX5_setName_10 : decode cX5_setName 10 = .ok (.if_icmp .ge 10, 3) := by decide +kernel
theorem dX5_setName_13 : decode cX5_setName 13 = .ok (.aload_n 0, 1) := by decide +kernel
theorem dX5_setName_14 : decode cX5_setName 14 = .ok (.getfield 21, 3) := by decide +kernel
theorem dX5_setName_17 : decode cX5_setName 17 = .ok (.iload_n 1, 1) := by decide +kernel
theorem dX5_setName_18 : decode cX5_setName 18 = .ok (.iload_n 2, 1) := by decide +kernel
theorem dX5_setName_19 : decode cX5_setName 19 = .ok (.iastore, 1) := by decide +kernel
theorem dX5_setName_20 : decode cX5_setName 20 = .ok (.return_, 1) := by decide +kernel
theorem dX5_setNamer_0 : decode cX5_setNamer 0 = .ok (.aload_n 0, 1) := by decide +kernel
theorem dX5_setNamer_1 : decode cX5_setNamer 1 = .ok (.iload_n 1, 1) := by decide +kernel
theorem dX5_setNamer_2 : decode cX5_setNamer 2 = .ok (.putfield 33, 3) := by decide +kernel
theorem dX5_setNamer_5 : decode cX5_setNamer 5 = .ok (.return_, 1) := by decide +kernel
theorem dX5_nextOr_0 : decode cX5_nextOr 0 = .ok (.iload_n 1, 1) := by decide +kernel
theorem dX5_nextOr_1 : decode cX5_nextOr 1 = .ok (.bipush 12, 2) := by decide +kernel
theorem dX5_nextOr_3 : decode cX5_nextOr 3 = .ok (.imul, 1) := by decide +kernel
theorem dX5_nextOr_4 : decode cX5_nextOr 4 = .ok (.iload_n 2, 1) := by decide +kernel
theorem dX5_nextOr_5 : decode cX5_nextOr 5 = .ok (.iadd, 1) := by decide +kernel
theorem dX5_nextOr_6 : decode cX5_nextOr 6 = .ok (.istore 4, 2) := by decide +kernel
theorem dX5_nextOr_8 : decode cX5_nextOr 8 = .ok (.iload 4, 2) := by decide +kernel
theorem dX5_nextOr_10 : decode cX5_nextOr 10 = .ok (.ifCond .lt 28, 3) := by decide +kernel
theorem dX5_nextOr_13 : decode cX5_nextOr 13 = .ok (.iload 4, 2) := by decide +kernel
theorem dX5_nextOr_15 : decode cX5_nextOr 15 = .ok (.aload_n 0, 1) := by decide +kernel
theorem dX5_nextOr_16 : decode cX5_nextOr 16 = .ok (.getfield 9, 3) := by decide +kernel
theorem dX5_nextOr_19 : decode cX5_nextOr 19 = .ok (.arraylength, 1) := by decide +kernel
theorem dX5_nextOr_20 : decode cX5_nextOr 20 = .ok (.if_icmp .ge 18, 3) := by decide +kernel
theorem dX5_nextOr_23 : decode cX5_nextOr 23 = .ok (.aload_n 0, 1) := by decide +kernel
theorem dX5_nextOr_24 : decode cX5_nextOr 24 = .ok (.getfield 9, 3) := by decide +kernel
theorem dX5_nextOr_27 : decode cX5_nextOr 27 = .ok (.iload 4, 2) := by decide +kernel
theorem dX5_nextOr_29 : decode cX5_nextOr 29 = .ok (.iaload, 1) := by decide +kernel
theorem dX5_nextOr_30 : decode cX5_nextOr 30 = .ok (.iconst (-1), 1) := by decide +kernel
theorem dX5_nextOr_31 : decode cX5_nextOr 31 = .ok (.if_icmp .eq 7, 3) := by decide +kernel
theorem dX5_nextOr_34 : decode cX5_nextOr 34 = .ok (.iconst 1, 1) := by decide +kernel
theorem dX5_nextOr_35 : decode cX5_nextOr 35 = .ok (.goto 4, 3) := by decide +kernel
theorem dX5_nextOr_38 : decode cX5_nextOr 38 = .ok (.iconst 0, 1) := by decide +kernel
theorem dX5_nextOr_39 : decode cX5_nextOr 39 = .ok (.istore 5, 2) := by decide +kernel
theorem dX5_nextOr_41 : decode cX5_nextOr 41 = .ok (.iload 5, 2) := by decide +kernel
theorem dX5_nextOr_43 : decode cX5_nextOr 43 = .ok (.ifCond .eq 13, 3) := by decide +kernel
theorem dX5_nextOr_46 : decode cX5_nextOr 46 = .ok (.aload_n 0, 1) := by decide +kernel
theorem dX5_nextOr_47 : decode cX5_nextOr 47 = .ok (.getfield 9, 3) := by decide +kernel
theorem dX5_nextOr_50 : decode cX5_nextOr 50 = .ok (.iload 4, 2) := by decide +kernel
theorem dX5_nextOr_52 : decode cX5_nextOr 52 = .ok (.iaload, 1) := by decide +kernel
theorem dX5_nextOr_53 : decode cX5_nextOr 53 = .ok (.goto 4, 3) := by decide +kernel
theorem dX5_nextOr_56 : decode cX5_nextOr 56 = .ok (.iload_n 3, 1) := by decide +kernel
theorem dX5_nextOr_57 : decode cX5_nextOr 57 = .ok (.ireturn, 1) := by decide +kernel
theorem dX5_denies_0 : decode cX5_denies 0 = .ok (.iload_n 1, 1) := by decide +kernel
theorem dX5_denies_1 : decode cX5_denies 1 = .ok (.bipush 12, 2) := by decide +kernel
theorem dX5_denies_3 : decode cX5_denies 3 = .ok (.imul, 1) := by decide +kernel
theorem dX5_denies_4 : decode cX5_denies 4 = .ok (.iload_n 2, 1) := by decide +kernel
theorem dX5_denies_5 : decode cX5_denies 5 = .ok (.iadd, 1) := by decide +kernel
theorem dX5_denies_6 : decode cX5_denies 6 = .ok (.istore 4, 2) := by decide +kernel
theorem dX5_denies_8 : decode cX5_denies 8 = .ok (.iload 4, 2) := by decide +kernel
theorem dX5_denies_10 : decode cX5_denies 10 = .ok (.ifCond .lt 31, 3) := by decide +kernel
theorem dX5_denies_13 : decode cX5_denies 13 = .ok (.iload 4, 2) := by decide +kernel
theorem dX5_denies_15 : decode cX5_denies 15 = .ok (.aload_n 0, 1) := by decide +kernel
theorem dX5_denies_16 : decode cX5_denies 16 = .ok (.getfield 15, 3) := by decide +kernel
theorem dX5_denies_19 : decode cX5_denies 19 = .ok (.arraylength, 1) := by decide +kernel
theorem dX5_denies_20 : decode cX5_denies 20 = .ok (.if_icmp .ge 21, 3) := by decide +kernel
theorem dX5_denies_23 : decode cX5_denies 23 = .ok (.aload_n 0, 1) := by decide +kernel
theorem dX5_denies_24 : decode cX5_denies 24 = .ok (.getfield 15, 3) := by decide +kernel
theorem dX5_denies_27 : decode cX5_denies 27 = .ok (.iload 4, 2) := by decide +kernel
theorem dX5_denies_29 : decode cX5_denies 29 = .ok (.iaload, 1) := by decide +kernel
theorem dX5_denies_30 : decode cX5_denies 30 = .ok (.iload_n 3, 1) := by decide +kernel
theorem dX5_denies_31 : decode cX5_denies 31 = .ok (.ishr, 1) := by decide +kernel
theorem dX5_denies_32 : decode cX5_denies 32 = .ok (.iconst 1, 1) := by decide +kernel
theorem dX5_denies_33 : decode cX5_denies 33 = .ok (.iand, 1) := by decide +kernel
theorem dX5_denies_34 : decode cX5_denies 34 = .ok (.ifCond .eq 7, 3) := by decide +kernel
theorem dX5_denies_37 : decode cX5_denies 37 = .ok (.iconst 1, 1) := by decide +kernel
theorem dX5_denies_38 : decode cX5_denies 38 = .ok (.goto 4, 3) := by decide +kernel
theorem dX5_denies_41 : decode cX5_denies 41 = .ok (.iconst 0, 1) := by decide +kernel
theorem dX5_denies_42 : decode cX5_denies 42 = .ok (.ireturn, 1) := by decide +kernel
theorem dX5_isOn_0 : decode cX5_isOn 0 = .ok (.iload_n 1, 1) := by decide +kernel
theorem dX5_isOn_1 : decode cX5_isOn 1 = .ok (.ifCond .lt 29, 3) := by decide +kernel
theorem dX5_isOn_4 : decode cX5_isOn 4 = .ok (.iload_n 1, 1) := by decide +kernel
theorem dX5_isOn_5 : decode cX5_isOn 5 = .ok (.aload_n 0, 1) := by decide +kernel
theorem dX5_isOn_6 : decode cX5_isOn 6 = .ok (.getfield 18, 3) := by decide +kernel
theorem dX5_isOn_9 : decode cX5_isOn 9 = .ok (.arraylength, 1) := by decide +kernel
theorem dX5_isOn_10 : decode cX5_isOn 10 = .ok (.if_icmp .ge 20, 3) := by decide +kernel
theorem dX5_isOn_13 : decode cX5_isOn 13 = .ok (.aload_n 0, 1) := by decide +kernel
theorem dX5_isOn_14 : decode cX5_isOn 14 = .ok (.getfield 18, 3) := by decide +kernel
theorem dX5_isOn_17 : decode cX5_isOn 17 = .ok (.iload_n 1, 1) := by decide +kernel
theorem dX5_isOn_18 : decode cX5_isOn 18 = .ok (.iaload, 1) := by decide +kernel
theorem dX5_isOn_19 : decode cX5_isOn 19 = .ok (.iload_n 2, 1) := by decide +kernel
theorem dX5_isOn_20 : decode cX5_isOn 20 = .ok (.ishr, 1) := by decide +kernel
theorem dX5_isOn_21 : decode cX5_isOn 21 = .ok (.iconst 1, 1) := by decide +kernel
theorem dX5_isOn_22 : decode cX5_isOn 22 = .ok (.iand, 1) := by decide +kernel
theorem dX5_isOn_23 : decode cX5_isOn 23 = .ok (.ifCond .eq 7, 3) := by decide +kernel
theorem dX5_isOn_26 : decode cX5_isOn 26 = .ok (.iconst 1, 1) := by decide +kernel
theorem dX5_isOn_27 : decode cX5_isOn 27 = .ok (.goto 4, 3) := by decide +kernel
theorem dX5_isOn_30 : decode cX5_isOn 30 = .ok (.iconst 0, 1) := by decide +kernel
theorem dX5_isOn_31 : decode cX5_isOn 31 = .ok (.ireturn, 1) := by decide +kernel
theorem dX5_hostOf_0 : decode cX5_hostOf 0 = .ok (.iload_n 1, 1) := by decide +kernel
theorem dX5_hostOf_1 : decode cX5_hostOf 1 = .ok (.ifCond .lt 21, 3) := by decide +kernel
theorem dX5_hostOf_4 : decode cX5_hostOf 4 = .ok (.iload_n 1, 1) := by decide +kernel
theorem dX5_hostOf_5 : decode cX5_hostOf 5 = .ok (.aload_n 0, 1) := by decide +kernel
theorem dX5_hostOf_6 : decode cX5_hostOf 6 = .ok (.getfield 21, 3) := by decide +kernel
theorem dX5_hostOf_9 : decode cX5_hostOf 9 = .ok (.arraylength, 1) := by decide +kernel
theorem dX5_hostOf_10 : decode cX5_hostOf 10 = .ok (.if_icmp .ge 12, 3) := by decide +kernel
theorem dX5_hostOf_13 : decode cX5_hostOf 13 = .ok (.aload_n 0, 1) := by decide +kernel
theorem dX5_hostOf_14 : decode cX5_hostOf 14 = .ok (.getfield 21, 3) := by decide +kernel
theorem dX5_hostOf_17 : decode cX5_hostOf 17 = .ok (.iload_n 1, 1) := by decide +kernel
theorem dX5_hostOf_18 : decode cX5_hostOf 18 = .ok (.iaload, 1) := by decide +kernel
theorem dX5_hostOf_19 : decode cX5_hostOf 19 = .ok (.goto 4, 3) := by decide +kernel
theorem dX5_hostOf_22 : decode cX5_hostOf 22 = .ok (.iconst (-1), 1) := by decide +kernel
theorem dX5_hostOf_23 : decode cX5_hostOf 23 = .ok (.ireturn, 1) := by decide +kernel
theorem dX5_itsNamer_0 : decode cX5_itsNamer 0 = .ok (.aload_n 0, 1) := by decide +kernel
theorem dX5_itsNamer_1 : decode cX5_itsNamer 1 = .ok (.getfield 33, 3) := by decide +kernel
theorem dX5_itsNamer_4 : decode cX5_itsNamer 4 = .ok (.ireturn, 1) := by decide +kernel
theorem dX5_isCut_0 : decode cX5_isCut 0 = .ok (.iload_n 1, 1) := by decide +kernel
theorem dX5_isCut_1 : decode cX5_isCut 1 = .ok (.ifCond .lt 14, 3) := by decide +kernel
theorem dX5_isCut_4 : decode cX5_isCut 4 = .ok (.aload_n 0, 1) := by decide +kernel
theorem dX5_isCut_5 : decode cX5_isCut 5 = .ok (.getfield 37, 3) := by decide +kernel
theorem dX5_isCut_8 : decode cX5_isCut 8 = .ok (.iload_n 1, 1) := by decide +kernel
theorem dX5_isCut_9 : decode cX5_isCut 9 = .ok (.ishr, 1) := by decide +kernel
theorem dX5_isCut_10 : decode cX5_isCut 10 = .ok (.iconst 1, 1) := by decide +kernel
theorem dX5_isCut_11 : decode cX5_isCut 11 = .ok (.iand, 1) := by decide +kernel
theorem dX5_isCut_12 : decode cX5_isCut 12 = .ok (.ifCond .eq 7, 3) := by decide +kernel
theorem dX5_isCut_15 : decode cX5_isCut 15 = .ok (.iconst 1, 1) := by decide +kernel
theorem dX5_isCut_16 : decode cX5_isCut 16 = .ok (.goto 4, 3) := by decide +kernel
theorem dX5_isCut_19 : decode cX5_isCut 19 = .ok (.iconst 0, 1) := by decide +kernel
theorem dX5_isCut_20 : decode cX5_isCut 20 = .ok (.ireturn, 1) := by decide +kernel
theorem dX5_isAstray_0 : decode cX5_isAstray 0 = .ok (.aload_n 0, 1) := by decide +kernel
theorem dX5_isAstray_1 : decode cX5_isAstray 1 = .ok (.getfield 40, 3) := by decide +kernel
theorem dX5_isAstray_4 : decode cX5_isAstray 4 = .ok (.iload_n 1, 1) := by decide +kernel
theorem dX5_isAstray_5 : decode cX5_isAstray 5 = .ok (.ishr, 1) := by decide +kernel
theorem dX5_isAstray_6 : decode cX5_isAstray 6 = .ok (.iconst 1, 1) := by decide +kernel
theorem dX5_isAstray_7 : decode cX5_isAstray 7 = .ok (.iand, 1) := by decide +kernel
theorem dX5_isAstray_8 : decode cX5_isAstray 8 = .ok (.ifCond .eq 7, 3) := by decide +kernel
theorem dX5_isAstray_11 : decode cX5_isAstray 11 = .ok (.iconst 1, 1) := by decide +kernel
theorem dX5_isAstray_12 : decode cX5_isAstray 12 = .ok (.goto 4, 3) := by decide +kernel
theorem dX5_isAstray_15 : decode cX5_isAstray 15 = .ok (.iconst 0, 1) := by decide +kernel
theorem dX5_isAstray_16 : decode cX5_isAstray 16 = .ok (.ireturn, 1) := by decide +kernel
theorem dX6_init_0 : decode cX6_init 0 = .ok (.aload_n 0, 1) := by decide +kernel
theorem dX6_init_1 : decode cX6_init 1 = .ok (.invokespecial 3, 3) := by decide +kernel
theorem dX6_init_4 : decode cX6_init 4 = .ok (.aload_n 0, 1) := by decide +kernel
theorem dX6_init_5 : decode cX6_init 5 = .ok (.sipush 144, 3) := by decide +kernel
theorem dX6_init_8 : decode cX6_init 8 = .ok (.newarray .int, 2) := by decide +kernel
theorem dX6_init_10 : decode cX6_init 10 = .ok (.putfield 9, 3) := by decide +kernel
theorem dX6_init_13 : decode cX6_init 13 = .ok (.aload_n 0, 1) := by decide +kernel
theorem dX6_init_14 : decode cX6_init 14 = .ok (.sipush 144, 3) := by decide +kernel
theorem dX6_init_17 : decode cX6_init 17 = .ok (.newarray .int, 2) := by decide +kernel
theorem dX6_init_19 : decode cX6_init 19 = .ok (.putfield 15, 3) := by decide +kernel
theorem dX6_init_22 : decode cX6_init 22 = .ok (.aload_n 0, 1) := by decide +kernel
theorem dX6_init_23 : decode cX6_init 23 = .ok (.bipush 12, 2) := by decide +kernel
theorem dX6_init_25 : decode cX6_init 25 = .ok (.newarray .int, 2) := by decide +kernel
theorem dX6_init_27 : decode cX6_init 27 = .ok (.putfield 18, 3) := by decide +kernel
theorem dX6_init_30 : decode cX6_init 30 = .ok (.aload_n 0, 1) := by decide +kernel
theorem dX6_init_31 : decode cX6_init 31 = .ok (.sipush 4096, 3) := by decide +kernel
theorem dX6_init_34 : decode cX6_init 34 = .ok (.newarray .int, 2) := by decide +kernel
theorem dX6_init_36 : decode cX6_init 36 = .ok (.putfield 21, 3) := by decide +kernel
theorem dX6_init_39 : decode cX6_init 39 = .ok (.return_, 1) := by decide +kernel
theorem dX6_forget_0 : decode cX6_forget 0 = .ok (.aload_n 0, 1) := by decide +kernel
theorem dX6_forget_1 : decode cX6_forget 1 = .ok (.iconst 0, 1) := by decide +kernel
theorem dX6_forget_2 : decode cX6_forget 2 = .ok (.putfield 24, 3) := by decide +kernel
theorem dX6_forget_5 : decode cX6_forget 5 = .ok (.return_, 1) := by decide +kernel
theorem dX6_isReady_0 : decode cX6_isReady 0 = .ok (.aload_n 0, 1) := by decide +kernel
theorem dX6_isReady_1 : decode cX6_isReady 1 = .ok (.getfield 24, 3) := by decide +kernel
theorem dX6_isReady_4 : decode cX6_isReady 4 = .ok (.ireturn, 1) := by decide +kernel
theorem dX6_start_0 : decode cX6_start 0 = .ok (.aload_n 0, 1) := by decide +kernel
theorem dX6_start_1 : decode cX6_start 1 = .ok (.iload_n 1, 1) := by decide +kernel
theorem dX6_start_2 : decode cX6_start 2 = .ok (.bipush 12, 2) := by decide +kernel
theorem dX6_start_4 : decode cX6_start 4 = .ok (.invokestatic 28, 3) := by decide +kernel
theorem dX6_start_7 : decode cX6_start 7 = .ok (.putfield 34, 3) := by decide +kernel
theorem dX6_start_10 : decode cX6_start 10 = .ok (.aload_n 0, 1) := by decide +kernel
theorem dX6_start_11 : decode cX6_start 11 = .ok (.iload_n 2, 1) := by decide +kernel
theorem dX6_start_12 : decode cX6_start 12 = .ok (.bipush 12, 2) := by decide +kernel
theorem dX6_start_14 : decode cX6_start 14 = .ok (.invokestatic 28, 3) := by decide +kernel
theorem dX6_start_17 : decode cX6_start 17 = .ok (.putfield 38, 3) := by decide +kernel
theorem dX6_start_20 : decode cX6_start 20 = .ok (.iconst 0, 1) := by decide +kernel
theorem dX6_start_21 : decode cX6_start 21 = .ok (.istore_n 3, 1) := by decide +kernel
theorem dX6_start_22 : decode cX6_start 22 = .ok (.iload_n 3, 1) := by decide +kernel
theorem dX6_start_23 : decode cX6_start 23 = .ok (.iconst 1, 1) := by decide +kernel
theorem dX6_start_24 : decode cX6_start 24 = .ok (.aload_n 0, 1) := by decide +kernel
theorem dX6_start_25 : decode cX6_start 25 = .ok (.getfield 38, 3) := by decide +kernel
theorem dX6_start_28 : decode cX6_start 28 = .ok (.ishl, 1) := by decide +kernel
theorem dX6_start_29 : decode cX6_start 29 = .ok (.if_icmp .ge 16, 3) := by decide +kernel
theorem dX6_start_32 : decode cX6_start 32 = .ok (.aload_n 0, 1) := by decide +kernel
theorem dX6_start_33 : decode cX6_start 33 = .ok (.getfield 21, 3) := by decide +kernel
theorem dX6_start_36 : decode cX6_start 36 = .ok (.iload_n 3, 1) := by decide +kernel
theorem dX6_start_37 : decode cX6_start 37 = .ok (.iconst (-1), 1) := by decide +kernel
theorem dX6_start_38 : decode cX6_start 38 = .ok (.iastore, 1) := by decide +kernel
theorem dX6_start_39 : decode cX6_start 39 = .ok (.iinc 3 1, 3) := by decide +kernel
theorem dX6_start_42 : decode cX6_start 42 = .ok (.goto (-20), 3) := by decide +kernel
theorem dX6_start_45 : decode cX6_start 45 = .ok (.aload_n 0, 1) := by decide +kernel
theorem dX6_start_46 : decode cX6_start 46 = .ok (.iconst 1, 1) := by decide +kernel
theorem dX6_start_47 : decode cX6_start 47 = .ok (.putfield 24, 3) := by decide +kernel
theorem dX6_start_50 : decode cX6_start 50 = .ok (.return_, 1) := by decide +kernel
theorem dX6_put_0 : decode cX6_put 0 = .ok (.iload_n 1, 1) := by decide +kernel
theorem dX6_put_1 : decode cX6_put 1 = .ok (.bipush 12, 2) := by decide +kernel
theorem dX6_put_3 : decode cX6_put 3 = .ok (.imul, 1) := by decide +kernel
theorem dX6_put_4 : decode cX6_put 4 = .ok (.iload_n 2, 1) := by decide +kernel
theorem dX6_put_5 : decode cX6_put 5 = .ok (.iadd, 1) := by decide +kernel
theorem dX6_put_6 : decode cX6_put 6 = .ok (.istore 4, 2) := by decide +kernel
theorem dX6_put_8 : decode cX6_put 8 = .ok (.iload 4, 2) := by decide +kernel
theorem dX6_put_10 : decode cX6_put 10 = .ok (.ifCond .lt 21, 3) := by decide +kernel
theorem dX6_put_13 : decode cX6_put 13 = .ok (.iload 4, 2) := by decide +kernel
theorem dX6_put_15 : decode cX6_put 15 = .ok (.aload_n 0, 1) := by decide +kernel
theorem dX6_put_16 : decode cX6_put 16 = .ok (.getfield 9, 3) := by decide +kernel
theorem dX6_put_19 : decode cX6_put 19 = .ok (.arraylength, 1) := by decide +kernel
theorem dX6_put_20 : decode cX6_put 20 = .ok (.if_icmp .ge 11, 3) := by decide +kernel
theorem dX6_put_23 : decode cX6_put 23 = .ok (.aload_n 0, 1) := by decide +kernel
theorem dX6_put_24 : decode cX6_put 24 = .ok (.getfield 9, 3) := by decide +kernel
theorem dX6_put_27 : decode cX6_put 27 = .ok (.iload 4, 2) := by decide +kernel
theorem dX6_put_29 : decode cX6_put 29 = .ok (.iload_n 3, 1) := by decide +kernel
theorem dX6_put_30 : decode cX6_put 30 = .ok (.iastore, 1) := by decide +kernel
theorem dX6_put_31 : decode cX6_put 31 = .ok (.return_, 1) := by decide +kernel
theorem dX6_finish_0 : decode cX6_finish 0 = .ok (.iload_n 1, 1) := by decide +kernel
theorem dX6_finish_1 : decode cX6_finish 1 = .ok (.ifCond .lt 11, 3) := by decide +kernel
theorem dX6_finish_4 : decode cX6_finish 4 = .ok (.iload_n 1, 1) := by decide +kernel
theorem dX6_finish_5 : decode cX6_finish 5 = .ok (.aload_n 0, 1) := by decide +kernel
theorem dX6_finish_6 : decode cX6_finish 6 = .ok (.getfield 34, 3) := by decide +kernel
theorem dX6_finish_9 : decode cX6_finish 9 = .ok (.if_icmp .lt 4, 3) := by decide +kernel
theorem dX6_finish_12 : decode cX6_finish 12 = .ok (.return_, 1) := by decide +kernel
theorem dX6_finish_13 : decode cX6_finish 13 = .ok (.aload_n 0, 1) := by decide +kernel
theorem dX6_finish_14 : decode cX6_finish 14 = .ok (.getfield 18, 3) := by decide +kernel
theorem dX6_finish_17 : decode cX6_finish 17 = .ok (.iload_n 1, 1) := by decide +kernel
theorem dX6_finish_18 : decode cX6_finish 18 = .ok (.iload_n 2, 1) := by decide +kernel
theorem dX6_finish_19 : decode cX6_finish 19 = .ok (.iastore, 1) := by decide +kernel
theorem dX6_finish_20 : decode cX6_finish 20 = .ok (.iload_n 1, 1) := by decide +kernel
theorem dX6_finish_21 : decode cX6_finish 21 = .ok (.bipush 12, 2) := by decide +kernel
theorem dX6_finish_23 : decode cX6_finish 23 = .ok (.imul, 1) := by decide +kernel
theorem dX6_finish_24 : decode cX6_finish 24 = .ok (.istore_n 3, 1) := by decide +kernel
theorem dX6_finish_25 : decode cX6_finish 25 = .ok (.iconst 0, 1) := by decide +kernel
theorem dX6_finish_26 : decode cX6_finish 26 = .ok (.istore 4, 2) := by decide +kernel
theorem dX6_finish_28 : decode cX6_finish 28 = .ok (.iload 4, 2) := by decide +kernel
theorem dX6_finish_30 : decode cX6_finish 30 = .ok (.aload_n 0, 1) := by decide +kernel
theorem dX6_finish_31 : decode cX6_finish 31 = .ok (.getfield 38, 3) := by decide +kernel
theorem dX6_finish_34 : decode cX6_finish 34 = .ok (.if_icmp .ge 71, 3) := by decide +kernel
theorem dX6_finish_37 : decode cX6_finish 37 = .ok (.iconst 0, 1) := by decide +kernel
theorem dX6_finish_38 : decode cX6_finish 38 = .ok (.istore 5, 2) := by decide +kernel
theorem dX6_finish_40 : decode cX6_finish 40 = .ok (.iconst 0, 1) := by decide +kernel
theorem dX6_finish_41 : decode cX6_finish 41 = .ok (.istore 6, 2) := by decide +kernel
theorem dX6_finish_43 : decode cX6_finish 43 = .ok (.iload 6, 2) := by decide +kernel
theorem dX6_finish_45 : decode cX6_finish 45 = .ok (.aload_n 0, 1) := by decide +kernel
theorem dX6_finish_46 : decode cX6_finish 46 = .ok (.getfield 38, 3) := by decide +kernel
theorem dX6_finish_49 : decode cX6_finish 49 = .ok (.if_icmp .ge 39, 3) := by decide +kernel
theorem dX6_finish_52 : decode cX6_finish 52 = .ok (.aload_n 0, 1) := by decide +kernel
theorem dX6_finish_53 : decode cX6_finish 53 = .ok (.getfield 9, 3) := by decide +kernel
theorem dX6_finish_56 : decode cX6_finish 56 = .ok (.iload_n 3, 1) := by decide +kernel
theorem dX6_finish_57 : decode cX6_finish 57 = .ok (.iload 6, 2) := by decide +kernel
theorem dX6_finish_59 : decode cX6_finish 59 = .ok (.iadd, 1) := by decide +kernel
theorem dX6_finish_60 : decode cX6_finish 60 = .ok (.iaload, 1) := by decide +kernel
theorem dX6_finish_61 : decode cX6_finish 61 = .ok (.aload_n 0, 1) := by decide +kernel
theorem dX6_finish_62 : decode cX6_finish 62 = .ok (.getfield 9, 3) := by decide +kernel
theorem dX6_finish_65 : decode cX6_finish 65 = .ok (.iload_n 3, 1) := by decide +kernel
theorem dX6_finish_66 : decode cX6_finish 66 = .ok (.iload 4, 2) := by decide +kernel
theorem dX6_finish_68 : decode cX6_finish 68 = .ok (.iadd, 1) := by decide +kernel
theorem dX6_finish_69 : decode cX6_finish 69 = .ok (.iaload, 1) := by decide +kernel
theorem dX6_finish_70 : decode cX6_finish 70 = .ok (.if_icmp .ne 12, 3) := by decide +kernel
theorem dX6_finish_73 : decode cX6_finish 73 = .ok (.iload 5, 2) := by decide +kernel
theorem dX6_finish_75 : decode cX6_finish 75 = .ok (.iconst 1, 1) := by decide +kernel
theorem dX6_finish_76 : decode cX6_finish 76 = .ok (.iload 6, 2) := by decide +kernel
theorem dX6_finish_78 : decode cX6_finish 78 = .ok (.ishl, 1) := by decide +kernel
theorem dX6_finish_79 : decode cX6_finish 79 = .ok (.ior, 1) := by decide +kernel
theorem dX6_finish_80 : decode cX6_finish 80 = .ok (.istore 5, 2) := by decide +kernel
theorem dX6_finish_82 : decode cX6_finish 82 = .ok (.iinc 6 1, 3) := by decide +kernel
theorem dX6_finish_85 : decode cX6_finish 85 = .ok (.goto (-42), 3) := by decide +kernel
theorem dX6_finish_88 : decode cX6_finish 88 = .ok (.aload_n 0, 1) := by decide +kernel
theorem dX6_finish_89 : decode cX6_finish 89 = .ok (.getfield 15, 3) := by decide +kernel
theorem dX6_finish_92 : decode cX6_finish 92 = .ok (.iload_n 3, 1) := by decide +kernel
theorem dX6_finish_93 : decode cX6_finish 93 = .ok (.iload 4, 2) := by decide +kernel
theorem dX6_finish_95 : decode cX6_finish 95 = .ok (.iadd, 1) := by decide +kernel
theorem dX6_finish_96 : decode cX6_finish 96 = .ok (.iload 5, 2) := by decide +kernel
theorem dX6_finish_98 : decode cX6_finish 98 = .ok (.iastore, 1) := by decide +kernel
theorem dX6_finish_99 : decode cX6_finish 99 = .ok (.iinc 4 1, 3) := by decide +kernel
theorem dX6_finish_102 : decode cX6_finish 102 = .ok (.goto (-74), 3) := by decide +kernel
theorem dX6_finish_105 : decode cX6_finish 105 = .ok (.return_, 1) := by decide +kernel
theorem dX6_alikeTo_0 : decode cX6_alikeTo 0 = .ok (.iload_n 1, 1) := by decide +kernel
theorem dX6_alikeTo_1 : decode cX6_alikeTo 1 = .ok (.bipush 12, 2) := by decide +kernel
theorem dX6_alikeTo_3 : decode cX6_alikeTo 3 = .ok (.imul, 1) := by decide +kernel
theorem dX6_alikeTo_4 : decode cX6_alikeTo 4 = .ok (.iload_n 2, 1) := by decide +kernel
theorem dX6_alikeTo_5 : decode cX6_alikeTo 5 = .ok (.iadd, 1) := by decide +kernel
theorem dX6_alikeTo_6 : decode cX6_alikeTo 6 = .ok (.istore_n 3, 1) := by decide +kernel
theorem dX6_alikeTo_7 : decode cX6_alikeTo 7 = .ok (.iload_n 3, 1) := by decide +kernel
theorem dX6_alikeTo_8 : decode cX6_alikeTo 8 = .ok (.ifCond .lt 21, 3) := by decide +kernel
theorem dX6_alikeTo_11 : decode cX6_alikeTo 11 = .ok (.iload_n 3, 1) := by decide +kernel
theorem dX6_alikeTo_12 : decode cX6_alikeTo 12 = .ok (.aload_n 0, 1) := by decide +kernel
theorem dX6_alikeTo_13 : decode cX6_alikeTo 13 = .ok (.getfield 15, 3) := by decide +kernel
theorem dX6_alikeTo_16 : decode cX6_alikeTo 16 = .ok (.arraylength, 1) := by decide +kernel
theorem dX6_alikeTo_17 : decode cX6_alikeTo 17 = .ok (.if_icmp .ge 12, 3) := by decide +kernel
theorem dX6_alikeTo_20 : decode cX6_alikeTo 20 = .ok (.aload_n 0, 1) := by decide +kernel
theorem dX6_alikeTo_21 : decode cX6_alikeTo 21 = .ok (.getfield 15, 3) := by decide +kernel
theorem dX6_alikeTo_24 : decode cX6_alikeTo 24 = .ok (.iload_n 3, 1) := by decide +kernel
theorem dX6_alikeTo_25 : decode cX6_alikeTo 25 = .ok (.iaload, 1) := by decide +kernel
theorem dX6_alikeTo_26 : decode cX6_alikeTo 26 = .ok (.goto 4, 3) := by decide +kernel
theorem dX6_alikeTo_29 : decode cX6_alikeTo 29 = .ok (.iconst 0, 1) := by decide +kernel
theorem dX6_alikeTo_30 : decode cX6_alikeTo 30 = .ok (.ireturn, 1) := by decide +kernel
theorem dX6_looksThatPart_0 : decode cX6_looksThatPart 0 = .ok (.iconst 0, 1) := by decide +kernel
theorem dX6_looksThatPart_1 : decode cX6_looksThatPart 1 = .ok (.istore_n 3, 1) := by decide +kernel
theorem dX6_looksThatPart_2 : decode cX6_looksThatPart 2 = .ok (.iconst 0, 1) := by decide +kernel
theorem dX6_looksThatPart_3 : decode cX6_looksThatPart 3 = .ok (.istore 4, 2) := by decide +kernel
theorem dX6_looksThatPart_5 : decode cX6_looksThatPart 5 = .ok (.iload 4, 2) := by decide +kernel
theorem dX6_looksThatPart_7 : decode cX6_looksThatPart 7 = .ok (.aload_n 0, 1) := by decide +kernel
theorem dX6_looksThatPart_8 : decode cX6_looksThatPart 8 = .ok (.getfield 34, 3) := by decide +kernel
theorem dX6_looksThatPart_11 : decode cX6_looksThatPart 11 = .ok (.if_icmp .ge 30, 3) := by decide +kernel
theorem dX6_looksThatPart_14 : decode cX6_looksThatPart 14 = .ok (.aload_n 0, 1) := by decide +kernel
theorem dX6_looksThatPart_15 : decode cX6_looksThatPart 15 = .ok (.iload 4, 2) := by decide +kernel
theorem dX6_looksThatPart_17 : decode cX6_looksThatPart 17 = .ok (.iload_n 1, 1) := by decide +kernel
theorem dX6_looksThatPart_18 : decode cX6_looksThatPart 18 = .ok (.invokevirtual 41, 3) := by decide +kernel
theorem dX6_looksThatPart_21 : decode cX6_looksThatPart 21 = .ok (.iload_n 2, 1) := by decide +kernel
theorem dX6_looksThatPart_22 : decode cX6_looksThatPart 22 = .ok (.invokestatic 44, 3) := by decide +kernel
theorem dX6_looksThatPart_25 : decode cX6_looksThatPart 25 = .ok (.ifCond .ne 10, 3) := by decide +kernel
theorem dX6_looksThatPart_28 : decode cX6_looksThatPart 28 = .ok (.iload_n 3, 1) := by decide +kernel
theorem dX6_looksThatPart_29 : decode cX6_looksThatPart 29 = .ok (.iconst 1, 1) := by decide +kernel
theorem dX6_looksThatPart_30 : decode cX6_looksThatPart 30 = .ok (.iload 4, 2) := by decide +kernel
theorem dX6_looksThatPart_32 : decode cX6_looksThatPart 32 = .ok (.ishl, 1) := by decide +kernel
theorem dX6_looksThatPart_33 : decode cX6_looksThatPart 33 = .ok (.ior, 1) := by decide +kernel
theorem dX6_looksThatPart_34 : decode cX6_looksThatPart 34 = .ok (.istore_n 3, 1) := by decide +kernel
theorem dX6_looksThatPart_35 : decode cX6_looksThatPart 35 = .ok (.iinc 4 1, 3) := by decide +kernel
theorem dX6_looksThatPart_38 : decode cX6_looksThatPart 38 = .ok (.goto (-33), 3) := by decide +kernel
theorem dX6_looksThatPart_41 : decode cX6_looksThatPart 41 = .ok (.iload_n 3, 1) := by decide +kernel
theorem dX6_looksThatPart_42 : decode cX6_looksThatPart 42 = .ok (.ireturn, 1) := by decide +kernel
theorem dX6_groupsOf_0 : decode cX6_groupsOf 0 = .ok (.iload_n 2, 1) := by decide +kernel
theorem dX6_groupsOf_1 : decode cX6_groupsOf 1 = .ok (.istore_n 3, 1) := by decide +kernel
theorem dX6_groupsOf_2 : decode cX6_groupsOf 2 = .ok (.iconst 0, 1) := by decide +kernel
theorem dX6_groupsOf_3 : decode cX6_groupsOf 3 = .ok (.istore 4, 2) := by decide +kernel
theorem dX6_groupsOf_5 : decode cX6_groupsOf 5 = .ok (.iconst 0, 1) := by decide +kernel
theorem dX6_groupsOf_6 : decode cX6_groupsOf 6 = .ok (.istore 5, 2) := by decide +kernel
theorem dX6_groupsOf_8 : decode cX6_groupsOf 8 = .ok (.iload 5, 2) := by decide +kernel
theorem dX6_groupsOf_10 : decode cX6_groupsOf 10 = .ok (.aload_n 0, 1) := by decide +kernel
theorem dX6_groupsOf_11 : decode cX6_groupsOf 11 = .ok (.getfield 38, 3) := by decide +kernel
theorem dX6_groupsOf_14 : decode cX6_groupsOf 14 = .ok (.if_icmp .ge 30, 3) := by decide +kernel
theorem dX6_groupsOf_17 : decode cX6_groupsOf 17 = .ok (.iload_n 3, 1) := by decide +kernel
theorem dX6_groupsOf_18 : decode cX6_groupsOf 18 = .ok (.ifCond .eq 26, 3) := by decide +kernel
theorem dX6_groupsOf_21 : decode cX6_groupsOf 21 = .ok (.iload_n 3, 1) := by decide +kernel
theorem dX6_groupsOf_22 : decode cX6_groupsOf 22 = .ok (.aload_n 0, 1) := by decide +kernel
theorem dX6_groupsOf_23 : decode cX6_groupsOf 23 = .ok (.iload_n 1, 1) := by decide +kernel
theorem dX6_groupsOf_24 : decode cX6_groupsOf 24 = .ok (.iload_n 3, 1) := by decide +kernel
theorem dX6_groupsOf_25 : decode cX6_groupsOf 25 = .ok (.invokestatic 48, 3) := by decide +kernel
theorem dX6_groupsOf_28 : decode cX6_groupsOf 28 = .ok (.invokevirtual 41, 3) := by decide +kernel
theorem dX6_groupsOf_31 : decode cX6_groupsOf 31 = .ok (.iconst (-1), 1) := by decide +kernel
theorem dX6_groupsOf_32 : decode cX6_groupsOf 32 = .ok (.ixor, 1) := by decide +kernel
theorem dX6_groupsOf_33 : decode cX6_groupsOf 33 = .ok (.iand, 1) := by decide +kernel
theorem dX6_groupsOf_34 : decode cX6_groupsOf 34 = .ok (.istore_n 3, 1) := by decide +kernel
theorem dX6_groupsOf_35 : decode cX6_groupsOf 35 = .ok (.iinc 4 1, 3) := by decide +kernel
theorem dX6_groupsOf_38 : decode cX6_groupsOf 38 = .ok (.iinc 5 1, 3) := by decide +kernel
theorem dX6_groupsOf_41 : decode cX6_groupsOf 41 = .ok (.goto (-33), 3) := by decide +kernel
theorem dX6_groupsOf_44 : decode cX6_groupsOf 44 = .ok (.iload 4, 2) := by decide +kernel
theorem dX6_groupsOf_46 : decode cX6_groupsOf 46 = .ok (.ireturn, 1) := by decide +kernel
theorem dX6_leastCost_0 : decode cX6_leastCost 0 = .ok (.aload_n 0, 1) := by decide +kernel
theorem dX6_leastCost_1 : decode cX6_leastCost 1 = .ok (.iload_n 1, 1) := by decide +kernel
theorem dX6_leastCost_2 : decode cX6_leastCost 2 = .ok (.iconst 0, 1) := by decide +kernel
theorem dX6_leastCost_3 : decode cX6_leastCost 3 = .ok (.invokevirtual 52, 3) := by decide +kernel
theorem dX6_leastCost_6 : decode cX6_leastCost 6 = .ok (.ireturn, 1) := by decide +kernel
theorem dX6_worstOf_0 : decode cX6_worstOf 0 = .ok (.iload_n 1, 1) := by decide +kernel
theorem dX6_worstOf_1 : decode cX6_worstOf 1 = .ok (.ifCond .le 19, 3) := by decide +kernel
theorem dX6_worstOf_4 : decode cX6_worstOf 4 = .ok (.iload_n 1, 1) := by decide +kernel
theorem dX6_worstOf_5 : decode cX6_worstOf 5 = .ok (.iconst 1, 1) := by decide +kernel
theorem dX6_worstOf_6 : decode cX6_worstOf 6 = .ok (.aload_n 0, 1) := by decide +kernel
theorem dX6_worstOf_7 : decode cX6_worstOf 7 = .ok (.getfield 38, 3) := by decide +kernel
theorem dX6_worstOf_10 : decode cX6_worstOf 10 = .ok (.ishl, 1) := by decide +kernel
theorem dX6_worstOf_11 : decode cX6_worstOf 11 = .ok (.if_icmp .ge 9, 3) := by decide +kernel
theorem dX6_worstOf_14 : decode cX6_worstOf 14 = .ok (.iload_n 2, 1) := by decide +kernel
theorem dX6_worstOf_15 : decode cX6_worstOf 15 = .ok (.bipush 12, 2) := by decide +kernel
theorem dX6_worstOf_17 : decode cX6_worstOf 17 = .ok (.if_icmp .le 5, 3) := by decide +kernel
theorem dX6_worstOf_20 : decode cX6_worstOf 20 = .ok (.iconst 0, 1) := by decide +kernel
theorem dX6_worstOf_21 : decode cX6_worstOf 21 = .ok (.ireturn, 1) := by decide +kernel
theorem dX6_worstOf_22 : decode cX6_worstOf 22 = .ok (.aload_n 0, 1) := by decide +kernel
theorem dX6_worstOf_23 : decode cX6_worstOf 23 = .ok (.getfield 21, 3) := by decide +kernel
theorem dX6_worstOf_26 : decode cX6_worstOf 26 = .ok (.iload_n 1, 1) := by decide +kernel
theorem dX6_worstOf_27 : decode cX6_worstOf 27 = .ok (.iaload, 1) := by decide +kernel
theorem dX6_worstOf_28 : decode cX6_worstOf 28 = .ok (.iconst (-1), 1) := by decide +kernel
theorem dX6_worstOf_29 : decode cX6_worstOf 29 = .ok (.if_icmp .ne 64, 3) := by decide +kernel
theorem dX6_worstOf_32 : decode cX6_worstOf 32 = .ok (.iconst (-1), 1) := by decide +kernel
theorem dX6_worstOf_33 : decode cX6_worstOf 33 = .ok (.istore_n 3, 1) := by decide +kernel
theorem dX6_worstOf_34 : decode cX6_worstOf 34 = .ok (.iconst 0, 1) := by decide +kernel
theorem dX6_worstOf_35 : decode cX6_worstOf 35 = .ok (.istore 4, 2) := by decide +kernel
theorem dX6_worstOf_37 : decode cX6_worstOf 37 = .ok (.iload 4, 2) := by decide +kernel
theorem dX6_worstOf_39 : decode cX6_worstOf 39 = .ok (.aload_n 0, 1) := by decide +kernel
theorem dX6_worstOf_40 : decode cX6_worstOf 40 = .ok (.getfield 34, 3) := by decide +kernel
theorem dX6_worstOf_43 : decode cX6_worstOf 43 = .ok (.if_icmp .ge 39, 3) := by decide +kernel
theorem dX6_worstOf_46 : decode cX6_worstOf 46 = .ok (.aload_n 0, 1) := by decide +kernel
theorem dX6_worstOf_47 : decode cX6_worstOf 47 = .ok (.iload 4, 2) := by decide +kernel
theorem dX6_worstOf_49 : decode cX6_worstOf 49 = .ok (.iload_n 1, 1) := by decide +kernel
theorem dX6_worstOf_50 : decode cX6_worstOf 50 = .ok (.iload_n 2, 1) := by decide +kernel
theorem dX6_worstOf_51 : decode cX6_worstOf 51 = .ok (.invokevirtual 55, 3) := by decide +kernel
theorem dX6_worstOf_54 : decode cX6_worstOf 54 = .ok (.istore 5, 2) := by decide +kernel
theorem dX6_worstOf_56 : decode cX6_worstOf 56 = .ok (.iload 5, 2) := by decide +kernel
theorem dX6_worstOf_58 : decode cX6_worstOf 58 = .ok (.iconst (-1), 1) := by decide +kernel
theorem dX6_worstOf_59 : decode cX6_worstOf 59 = .ok (.if_icmp .eq 17, 3) := by decide +kernel
theorem dX6_worstOf_62 : decode cX6_worstOf 62 = .ok (.iload_n 3, 1) := by decide +kernel
theorem dX6_worstOf_63 : decode cX6_worstOf 63 = .ok (.iconst (-1), 1) := by decide +kernel
theorem dX6_worstOf_64 : decode cX6_worstOf 64 = .ok (.if_icmp .eq 9, 3) := by decide +kernel
theorem dX6_worstOf_67 : decode cX6_worstOf 67 = .ok (.iload 5, 2) := by decide +kernel
theorem dX6_worstOf_69 : decode cX6_worstOf 69 = .ok (.iload_n 3, 1) := by decide +kernel
theorem dX6_worstOf_70 : decode cX6_worstOf 70 = .ok (.if_icmp .ge 6, 3) := by decide +kernel
theorem dX6_worstOf_73 : decode cX6_worstOf 73 = .ok (.iload 5, 2) := by decide +kernel
theorem dX6_worstOf_75 : decode cX6_worstOf 75 = .ok (.istore_n 3, 1) := by decide +kernel
theorem dX6_worstOf_76 : decode cX6_worstOf 76 = .ok (.iinc 4 1, 3) := by decide +kernel
theorem dX6_worstOf_79 : decode cX6_worstOf 79 = .ok (.goto (-42), 3) := by decide +kernel
theorem dX6_worstOf_82 : decode cX6_worstOf 82 = .ok (.aload_n 0, 1) := by decide +kernel
theorem dX6_worstOf_83 : decode cX6_worstOf 83 = .ok (.getfield 21, 3) := by decide +kernel
theorem dX6_worstOf_86 : decode cX6_worstOf 86 = .ok (.iload_n 1, 1) := by decide +kernel
theorem dX6_worstOf_87 : decode cX6_worstOf 87 = .ok (.iload_n 3, 1) := by decide +kernel
theorem dX6_worstOf_88 : decode cX6_worstOf 88 = .ok (.iconst 0, 1) := by decide +kernel
theorem dX6_worstOf_89 : decode cX6_worstOf 89 = .ok (.invokestatic 59, 3) := by decide +kernel
theorem dX6_worstOf_92 : decode cX6_worstOf 92 = .ok (.iastore, 1) := by decide +kernel
theorem dX6_worstOf_93 : decode cX6_worstOf 93 = .ok (.aload_n 0, 1) := by decide +kernel
theorem dX6_worstOf_94 : decode cX6_worstOf 94 = .ok (.getfield 21, 3) := by decide +kernel
theorem dX6_worstOf_97 : decode cX6_worstOf 97 = .ok (.iload_n 1, 1) := by decide +kernel
theorem dX6_worstOf_98 : decode cX6_worstOf 98 = .ok (.iaload, 1) := by decide +kernel
theorem dX6_worstOf_99 : decode cX6_worstOf 99 = .ok (.ireturn, 1) := by decide +kernel
theorem dX6_costWith_0 : decode cX6_costWith 0 = .ok (.iload_n 2, 1) := by decide +kernel
theorem dX6_costWith_1 : decode cX6_costWith 1 = .ok (.istore 4, 2) := by decide +kernel
theorem dX6_costWith_3 : decode cX6_costWith 3 = .ok (.iconst 0, 1) := by decide +kernel
theorem dX6_costWith_4 : decode cX6_costWith 4 = .ok (.istore 5, 2) := by decide +kernel
theorem dX6_costWith_6 : decode cX6_costWith 6 = .ok (.iconst 0, 1) := by decide +kernel
theorem dX6_costWith_7 : decode cX6_costWith 7 = .ok (.istore 6, 2) := by decide +kernel
theorem dX6_costWith_9 : decode cX6_costWith 9 = .ok (.iload 6, 2) := by decide +kernel
theorem dX6_costWith_11 : decode cX6_costWith 11 = .ok (.aload_n 0, 1) := by decide +kernel
theorem dX6_costWith_12 : decode cX6_costWith 12 = .ok (.getfield 38, 3) := by decide +kernel
theorem dX6_costWith_15 : decode cX6_costWith 15 = .ok (.if_icmp .ge 61, 3) := by decide +kernel
theorem dX6_costWith_18 : decode cX6_costWith 18 = .ok (.iload 4, 2) := by decide +kernel
theorem dX6_costWith_20 : decode cX6_costWith 20 = .ok (.ifCond .eq 56, 3) := by decide +kernel
theorem dX6_costWith_23 : decode cX6_costWith 23 = .ok (.iload_n 2, 1) := by decide +kernel
theorem dX6_costWith_24 : decode cX6_costWith 24 = .ok (.aload_n 0, 1) := by decide +kernel
theorem dX6_costWith_25 : decode cX6_costWith 25 = .ok (.iload_n 1, 1) := by decide +kernel
theorem dX6_costWith_26 : decode cX6_costWith 26 = .ok (.iload 4, 2) := by decide +kernel
theorem dX6_costWith_28 : decode cX6_costWith 28 = .ok (.invokestatic 48, 3) := by decide +kernel
theorem dX6_costWith_31 : decode cX6_costWith 31 = .ok (.invokevirtual 41, 3) := by decide +kernel
theorem dX6_costWith_34 : decode cX6_costWith 34 = .ok (.iand, 1) := by decide +kernel
theorem dX6_costWith_35 : decode cX6_costWith 35 = .ok (.istore 7, 2) := by decide +kernel
theorem dX6_costWith_37 : decode cX6_costWith 37 = .ok (.iload 7, 2) := by decide +kernel
theorem dX6_costWith_39 : decode cX6_costWith 39 = .ok (.iload_n 2, 1) := by decide +kernel
theorem dX6_costWith_40 : decode cX6_costWith 40 = .ok (.if_icmp .ne 5, 3) := by decide +kernel
theorem dX6_costWith_43 : decode cX6_costWith 43 = .ok (.iconst (-1), 1) := by decide +kernel
theorem dX6_costWith_44 : decode cX6_costWith 44 = .ok (.ireturn, 1) := by decide +kernel
theorem dX6_costWith_45 : decode cX6_costWith 45 = .ok (.iload 5, 2) := by decide +kernel
theorem dX6_costWith_47 : decode cX6_costWith 47 = .ok (.aload_n 0, 1) := by decide +kernel
theorem dX6_costWith_48 : decode cX6_costWith 48 = .ok (.iload 7, 2) := by decide +kernel
theorem dX6_costWith_50 : decode cX6_costWith 50 = .ok (.iload_n 3, 1) := by decide +kernel
theorem dX6_costWith_51 : decode cX6_costWith 51 = .ok (.iconst 1, 1) := by decide +kernel
theorem dX6_costWith_52 : decode cX6_costWith 52 = .ok (.iadd, 1) := by decide +kernel
theorem dX6_costWith_53 : decode cX6_costWith 53 = .ok (.invokevirtual 52, 3) := by decide +kernel
theorem dX6_costWith_56 : decode cX6_costWith 56 = .ok (.invokestatic 59, 3) := by decide +kernel
theorem dX6_costWith_59 : decode cX6_costWith 59 = .ok (.istore 5, 2) := by decide +kernel
theorem dX6_costWith_61 : decode cX6_costWith 61 = .ok (.iload 4, 2) := by decide +kernel
theorem dX6_costWith_63 : decode cX6_costWith 63 = .ok (.iload 7, 2) := by decide +kernel
theorem dX6_costWith_65 : decode cX6_costWith 65 = .ok (.iconst (-1), 1) := by decide +kernel
theorem dX6_costWith_66 : decode cX6_costWith 66 = .ok (.ixor, 1) := by decide +kernel
theorem dX6_costWith_67 : decode cX6_costWith 67 = .ok (.iand, 1) := by decide +kernel
theorem dX6_costWith_68 : decode cX6_costWith 68 = .ok (.istore 4, 2) := by decide +kernel
theorem dX6_costWith_70 : decode cX6_costWith 70 = .ok (.iinc 6 1, 3) := by decide +kernel
theorem dX6_costWith_73 : decode cX6_costWith 73 = .ok (.goto (-64), 3) := by decide +kernel
theorem dX6_costWith_76 : decode cX6_costWith 76 = .ok (.iload_n 1, 1) := by decide +kernel
theorem dX6_costWith_77 : decode cX6_costWith 77 = .ok (.ifCond .lt 24, 3) := by decide +kernel
theorem dX6_costWith_80 : decode cX6_costWith 80 = .ok (.iload_n 1, 1) := by decide +kernel
theorem dX6_costWith_81 : decode cX6_costWith 81 = .ok (.aload_n 0, 1) := by decide +kernel
theorem dX6_costWith_82 : decode cX6_costWith 82 = .ok (.getfield 18, 3) := by decide +kernel
theorem dX6_costWith_85 : decode cX6_costWith 85 = .ok (.arraylength, 1) := by decide +kernel
theorem dX6_costWith_86 : decode cX6_costWith 86 = .ok (.if_icmp .ge 15, 3) := by decide +kernel
theorem dX6_costWith_89 : decode cX6_costWith 89 = .ok (.aload_n 0, 1) := by decide +kernel
theorem dX6_costWith_90 : decode cX6_costWith 90 = .ok (.getfield 18, 3) := by decide +kernel
theorem dX6_costWith_93 : decode cX6_costWith 93 = .ok (.iload_n 1, 1) := by decide +kernel
theorem dX6_costWith_94 : decode cX6_costWith 94 = .ok (.iaload, 1) := by decide +kernel
theorem dX6_costWith_95 : decode cX6_costWith 95 = .ok (.iload 5, 2) := by decide +kernel
theorem dX6_costWith_97 : decode cX6_costWith 97 = .ok (.iadd, 1) := by decide +kernel
theorem dX6_costWith_98 : decode cX6_costWith 98 = .ok (.goto 4, 3) := by decide +kernel
theorem dX6_costWith_101 : decode cX6_costWith 101 = .ok (.iconst (-1), 1) := by decide +kernel
theorem dX6_costWith_102 : decode cX6_costWith 102 = .ok (.ireturn, 1) := by decide +kernel
theorem dX6_firstOfBestWay_0 : decode cX6_firstOfBestWay 0 = .ok (.aload_n 0, 1) := by decide +kernel
theorem dX6_firstOfBestWay_1 : decode cX6_firstOfBestWay 1 = .ok (.iload_n 1, 1) := by decide +kernel
theorem dX6_firstOfBestWay_2 : decode cX6_firstOfBestWay 2 = .ok (.iconst 0, 1) := by decide +kernel
theorem dX6_firstOfBestWay_3 : decode cX6_firstOfBestWay 3 = .ok (.invokevirtual 52, 3) := by decide +kernel
theorem dX6_firstOfBestWay_6 : decode cX6_firstOfBestWay 6 = .ok (.istore_n 2, 1) := by decide +kernel
theorem dX6_firstOfBestWay_7 : decode cX6_firstOfBestWay 7 = .ok (.iconst 0, 1) := by decide +kernel
theorem dX6_firstOfBestWay_8 : decode cX6_firstOfBestWay 8 = .ok (.istore_n 3, 1) := by decide +kernel
theorem dX6_firstOfBestWay_9 : decode cX6_firstOfBestWay 9 = .ok (.iload_n 3, 1) := by decide +kernel
theorem dX6_firstOfBestWay_10 : decode cX6_firstOfBestWay 10 = .ok (.aload_n 0, 1) := by decide +kernel
theorem dX6_firstOfBestWay_11 : decode cX6_firstOfBestWay 11 = .ok (.getfield 34, 3) := by decide +kernel
theorem dX6_firstOfBestWay_14 : decode cX6_firstOfBestWay 14 = .ok (.if_icmp .ge 22, 3) := by decide +kernel
theorem dX6_firstOfBestWay_17 : decode cX6_firstOfBestWay 17 = .ok (.aload_n 0, 1) := by decide +kernel
theorem dX6_firstOfBestWay_18 : decode cX6_firstOfBestWay 18 = .ok (.iload_n 3, 1) := by decide +kernel
theorem dX6_firstOfBestWay_19 : decode cX6_firstOfBestWay 19 = .ok (.iload_n 1, 1) := by decide +kernel
theorem dX6_firstOfBestWay_20 : decode cX6_firstOfBestWay 20 = .ok (.iconst 0, 1) := by decide +kernel
theorem dX6_firstOfBestWay_21 : decode cX6_firstOfBestWay 21 = .ok (.invokevirtual 55, 3) := by decide +kernel
theorem dX6_firstOfBestWay_24 : decode cX6_firstOfBestWay 24 = .ok (.iload_n 2, 1) := by decide +kernel
theorem dX6_firstOfBestWay_25 : decode cX6_firstOfBestWay 25 = .ok (.if_icmp .ne 5, 3) := by decide +kernel
theorem dX6_firstOfBestWay_28 : decode cX6_firstOfBestWay 28 = .ok (.iload_n 3, 1) := by decide +kernel
theorem dX6_firstOfBestWay_29 : decode cX6_firstOfBestWay 29 = .ok (.ireturn, 1) := by decide +kernel
theorem dX6_firstOfBestWay_30 : decode cX6_firstOfBestWay 30 = .ok (.iinc 3 1, 3) := by decide +kernel
theorem dX6_firstOfBestWay_33 : decode cX6_firstOfBestWay 33 = .ok (.goto (-24), 3) := by decide +kernel
theorem dX6_firstOfBestWay_36 : decode cX6_firstOfBestWay 36 = .ok (.iconst (-1), 1) := by decide +kernel
theorem dX6_firstOfBestWay_37 : decode cX6_firstOfBestWay 37 = .ok (.ireturn, 1) := by decide +kernel
theorem dX6_mostTelling_0 : decode cX6_mostTelling 0 = .ok (.iconst (-1), 1) := by decide +kernel
theorem dX6_mostTelling_1 : decode cX6_mostTelling 1 = .ok (.istore_n 2, 1) := by decide +kernel
theorem dX6_mostTelling_2 : decode cX6_mostTelling 2 = .ok (.iconst 0, 1) := by decide +kernel
theorem dX6_mostTelling_3 : decode cX6_mostTelling 3 = .ok (.istore_n 3, 1) := by decide +kernel
theorem dX6_mostTelling_4 : decode cX6_mostTelling 4 = .ok (.iconst 0, 1) := by decide +kernel
theorem dX6_mostTelling_5 : decode cX6_mostTelling 5 = .ok (.istore 4, 2) := by decide +kernel
theorem dX6_mostTelling_7 : decode cX6_mostTelling 7 = .ok (.iload 4, 2) := by decide +kernel
theorem dX6_mostTelling_9 : decode cX6_mostTelling 9 = .ok (.aload_n 0, 1) := by decide +kernel
theorem dX6_mostTelling_10 : decode cX6_mostTelling 10 = .ok (.getfield 34, 3) := by decide +kernel
theorem dX6_mostTelling_13 : decode cX6_mostTelling 13 = .ok (.if_icmp .ge 90, 3) := by decide +kernel
theorem dX6_mostTelling_16 : decode cX6_mostTelling 16 = .ok (.aload_n 0, 1) := by decide +kernel
theorem dX6_mostTelling_17 : decode cX6_mostTelling 17 = .ok (.iload 4, 2) := by decide +kernel
theorem dX6_mostTelling_19 : decode cX6_mostTelling 19 = .ok (.iload_n 1, 1) := by decide +kernel
theorem dX6_mostTelling_20 : decode cX6_mostTelling 20 = .ok (.invokevirtual 62, 3) := by decide +kernel
theorem dX6_mostTelling_23 : decode cX6_mostTelling 23 = .ok (.istore 5, 2) := by decide +kernel
theorem dX6_mostTelling_25 : decode cX6_mostTelling 25 = .ok (.iload 5, 2) := by decide +kernel
theorem dX6_mostTelling_27 : decode cX6_mostTelling 27 = .ok (.iload_n 1, 1) := by decide +kernel
theorem dX6_mostTelling_28 : decode cX6_mostTelling 28 = .ok (.invokestatic 65, 3) := by decide +kernel
theorem dX6_mostTelling_31 : decode cX6_mostTelling 31 = .ok (.if_icmp .ge 7, 3) := by decide +kernel
theorem dX6_mostTelling_34 : decode cX6_mostTelling 34 = .ok (.iconst 1, 1) := by decide +kernel
theorem dX6_mostTelling_35 : decode cX6_mostTelling 35 = .ok (.goto 4, 3) := by decide +kernel
theorem dX6_mostTelling_38 : decode cX6_mostTelling 38 = .ok (.iconst 0, 1) := by decide +kernel
theorem dX6_mostTelling_39 : decode cX6_mostTelling 39 = .ok (.istore 6, 2) := by decide +kernel
theorem dX6_mostTelling_41 : decode cX6_mostTelling 41 = .ok (.iload_n 2, 1) := by decide +kernel
theorem dX6_mostTelling_42 : decode cX6_mostTelling 42 = .ok (.iconst (-1), 1) := by decide +kernel
theorem dX6_mostTelling_43 : decode cX6_mostTelling 43 = .ok (.if_icmp .eq 31, 3) := by decide +kernel
theorem dX6_mostTelling_46 : decode cX6_mostTelling 46 = .ok (.iload 5, 2) := by decide +kernel
theorem dX6_mostTelling_48 : decode cX6_mostTelling 48 = .ok (.iload_n 3, 1) := by decide +kernel
theorem dX6_mostTelling_49 : decode cX6_mostTelling 49 = .ok (.if_icmp .lt 25, 3) := by decide +kernel
theorem dX6_mostTelling_52 : decode cX6_mostTelling 52 = .ok (.iload 5, 2) := by decide +kernel
theorem dX6_mostTelling_54 : decode cX6_mostTelling 54 = .ok (.iload_n 3, 1) := by decide +kernel
theorem dX6_mostTelling_55 : decode cX6_mostTelling 55 = .ok (.if_icmp .ne 23, 3) := by decide +kernel
theorem dX6_mostTelling_58 : decode cX6_mostTelling 58 = .ok (.aload_n 0, 1) := by decide +kernel
theorem dX6_mostTelling_59 : decode cX6_mostTelling 59 = .ok (.getfield 18, 3) := by decide +kernel
theorem dX6_mostTelling_62 : decode cX6_mostTelling 62 = .ok (.iload 4, 2) := by decide +kernel
theorem dX6_mostTelling_64 : decode cX6_mostTelling 64 = .ok (.iaload, 1) := by decide +kernel
theorem dX6_mostTelling_65 : decode cX6_mostTelling 65 = .ok (.aload_n 0, 1) := by decide +kernel
theorem dX6_mostTelling_66 : decode cX6_mostTelling 66 = .ok (.getfield 18, 3) := by decide +kernel
theorem dX6_mostTelling_69 : decode cX6_mostTelling 69 = .ok (.iload_n 2, 1) := by decide +kernel
theorem dX6_mostTelling_70 : decode cX6_mostTelling 70 = .ok (.iaload, 1) := by decide +kernel
theorem dX6_mostTelling_71 : decode cX6_mostTelling 71 = .ok (.if_icmp .ge 7, 3) := by decide +kernel
theorem dX6_mostTelling_74 : decode cX6_mostTelling 74 = .ok (.iconst 1, 1) := by decide +kernel
theorem dX6_mostTelling_75 : decode cX6_mostTelling 75 = .ok (.goto 4, 3) := by decide +kernel
theorem dX6_mostTelling_78 : decode cX6_mostTelling 78 = .ok (.iconst 0, 1) := by decide +kernel
theorem dX6_mostTelling_79 : decode cX6_mostTelling 79 = .ok (.istore 7, 2) := by decide +kernel
theorem dX6_mostTelling_81 : decode cX6_mostTelling 81 = .ok (.iload 6, 2) := by decide +kernel
theorem dX6_mostTelling_83 : decode cX6_mostTelling 83 = .ok (.ifCond .eq 14, 3) := by decide +kernel
theorem dX6_mostTelling_86 : decode cX6_mostTelling 86 = .ok (.iload 7, 2) := by decide +kernel
theorem dX6_mostTelling_88 : decode cX6_mostTelling 88 = .ok (.ifCond .eq 9, 3) := by decide +kernel
theorem dX6_mostTelling_91 : decode cX6_mostTelling 91 = .ok (.iload 4, 2) := by decide +kernel
theorem dX6_mostTelling_93 : decode cX6_mostTelling 93 = .ok (.istore_n 2, 1) := by decide +kernel
theorem dX6_mostTelling_94 : decode cX6_mostTelling 94 = .ok (.iload 5, 2) := by decide +kernel
theorem dX6_mostTelling_96 : decode cX6_mostTelling 96 = .ok (.istore_n 3, 1) := by decide +kernel
theorem dX6_mostTelling_97 : decode cX6_mostTelling 97 = .ok (.iinc 4 1, 3) := by decide +kernel
theorem dX6_mostTelling_100 : decode cX6_mostTelling 100 = .ok (.goto (-93), 3) := by decide +kernel
theorem dX6_mostTelling_103 : decode cX6_mostTelling 103 = .ok (.iload_n 2, 1) := by decide +kernel
theorem dX6_mostTelling_104 : decode cX6_mostTelling 104 = .ok (.ireturn, 1) := by decide +kernel
theorem dX6_greatestPart_0 : decode cX6_greatestPart 0 = .ok (.iconst 0, 1) := by decide +kernel
theorem dX6_greatestPart_1 : decode cX6_greatestPart 1 = .ok (.istore_n 3, 1) := by decide +kernel
theorem dX6_greatestPart_2 : decode cX6_greatestPart 2 = .ok (.iconst 0, 1) := by decide +kernel
theorem dX6_greatestPart_3 : decode cX6_greatestPart 3 = .ok (.istore 4, 2) := by decide +kernel
theorem dX6_greatestPart_5 : decode cX6_greatestPart 5 = .ok (.iload 4, 2) := by decide +kernel
theorem dX6_greatestPart_7 : decode cX6_greatestPart 7 = .ok (.aload_n 0, 1) := by decide +kernel
theorem dX6_greatestPart_8 : decode cX6_greatestPart 8 = .ok (.getfield 38, 3) := by decide +kernel
theorem dX6_greatestPart_11 : decode cX6_greatestPart 11 = .ok (.if_icmp .ge 35, 3) := by decide +kernel
theorem dX6_greatestPart_14 : decode cX6_greatestPart 14 = .ok (.iload_n 2, 1) := by decide +kernel
theorem dX6_greatestPart_15 : decode cX6_greatestPart 15 = .ok (.iload 4, 2) := by decide +kernel
theorem dX6_greatestPart_17 : decode cX6_greatestPart 17 = .ok (.invokestatic 44, 3) := by decide +kernel
theorem dX6_greatestPart_20 : decode cX6_greatestPart 20 = .ok (.ifCond .eq 20, 3) := by decide +kernel
theorem dX6_greatestPart_23 : decode cX6_greatestPart 23 = .ok (.iload_n 3, 1) := by decide +kernel
theorem dX6_greatestPart_24 : decode cX6_greatestPart 24 = .ok (.iload_n 2, 1) := by decide +kernel
theorem dX6_greatestPart_25 : decode cX6_greatestPart 25 = .ok (.aload_n 0, 1) := by decide +kernel
theorem dX6_greatestPart_26 : decode cX6_greatestPart 26 = .ok (.iload_n 1, 1) := by decide +kernel
theorem dX6_greatestPart_27 : decode cX6_greatestPart 27 = .ok (.iload 4, 2) := by decide +kernel
theorem dX6_greatestPart_29 : decode cX6_greatestPart 29 = .ok (.invokevirtual 41, 3) := by decide +kernel
theorem dX6_greatestPart_32 : decode cX6_greatestPart 32 = .ok (.iand, 1) := by decide +kernel
theorem dX6_greatestPart_33 : decode cX6_greatestPart 33 = .ok (.invokestatic 65, 3) := by decide +kernel
theorem dX6_greatestPart_36 : decode cX6_greatestPart 36 = .ok (.invokestatic 59, 3) := by decide +kernel
theorem dX6_greatestPart_39 : decode cX6_greatestPart 39 = .ok (.istore_n 3, 1) := by decide +kernel
theorem dX6_greatestPart_40 : decode cX6_greatestPart 40 = .ok (.iinc 4 1, 3) := by decide +kernel
theorem dX6_greatestPart_43 : decode cX6_greatestPart 43 = .ok (.goto (-38), 3) := by decide +kernel
theorem dX6_greatestPart_46 : decode cX6_greatestPart 46 = .ok (.iload_n 3, 1) := by decide +kernel
theorem dX6_greatestPart_47 : decode cX6_greatestPart 47 = .ok (.ireturn, 1) := by decide +kernel
theorem dX7_init_0 : decode cX7_init 0 = .ok (.aload_n 0, 1) := by decide +kernel
theorem dX7_init_1 : decode cX7_init 1 = .ok (.invokespecial 3, 3) := by decide +kernel
theorem dX7_init_4 : decode cX7_init 4 = .ok (.aload_n 0, 1) := by decide +kernel
theorem dX7_init_5 : decode cX7_init 5 = .ok (.aload_n 1, 1) := by decide +kernel
theorem dX7_init_6 : decode cX7_init 6 = .ok (.putfield 9, 3) := by decide +kernel
theorem dX7_init_9 : decode cX7_init 9 = .ok (.aload_n 0, 1) := by decide +kernel
theorem dX7_init_10 : decode cX7_init 10 = .ok (.aload_n 2, 1) := by decide +kernel
theorem dX7_init_11 : decode cX7_init 11 = .ok (.putfield 15, 3) := by decide +kernel
theorem dX7_init_14 : decode cX7_init 14 = .ok (.aload_n 0, 1) := by decide +kernel
theorem dX7_init_15 : decode cX7_init 15 = .ok (.aload_n 3, 1) := by decide +kernel
theorem dX7_init_16 : decode cX7_init 16 = .ok (.putfield 19, 3) := by decide +kernel
theorem dX7_init_19 : decode cX7_init 19 = .ok (.return_, 1) := by decide +kernel
theorem dX7_tell_0 : decode cX7_tell 0 = .ok (.aload_n 0, 1) := by decide +kernel
theorem dX7_tell_1 : decode cX7_tell 1 = .ok (.getfield 19, 3) := by decide +kernel
theorem dX7_tell_4 : decode cX7_tell 4 = .ok (.iload_n 1, 1) := by decide +kernel
theorem dX7_tell_5 : decode cX7_tell 5 = .ok (.iconst 1, 1) := by decide +kernel
theorem dX7_tell_6 : decode cX7_tell 6 = .ok (.invokevirtual 23, 3) := by decide +kernel
theorem dX7_tell_9 : decode cX7_tell 9 = .ok (.istore_n 3, 1) := by decide +kernel
theorem dX7_tell_10 : decode cX7_tell 10 = .ok (.aload_n 0, 1) := by decide +kernel
theorem dX7_tell_11 : decode cX7_tell 11 = .ok (.getfield 19, 3) := by decide +kernel
theorem dX7_tell_14 : decode cX7_tell 14 = .ok (.iload_n 1, 1) := by decide +kernel
theorem dX7_tell_15 : decode cX7_tell 15 = .ok (.iconst 2, 1) := by decide +kernel
theorem dX7_tell_16 : decode cX7_tell 16 = .ok (.invokevirtual 23, 3) := by decide +kernel
theorem dX7_tell_19 : decode cX7_tell 19 = .ok (.istore 4, 2) := by decide +kernel
theorem dX7_tell_21 : decode cX7_tell 21 = .ok (.aload_n 0, 1) := by decide +kernel
theorem dX7_tell_22 : decode cX7_tell 22 = .ok (.getfield 19, 3) := by decide +kernel
theorem dX7_tell_25 : decode cX7_tell 25 = .ok (.iload_n 1, 1) := by decide +kernel
theorem dX7_tell_26 : decode cX7_tell 26 = .ok (.iconst 0, 1) := by decide +kernel
theorem dX7_tell_27 : decode cX7_tell 27 = .ok (.invokevirtual 23, 3) := by decide +kernel
theorem dX7_tell_30 : decode cX7_tell 30 = .ok (.tableswitch 123 0 4 #[34, 55, 64, 82, 109], 34) := by decide +kernel
theorem dX7_tell_64 : decode cX7_tell 64 = .ok (.aload_n 0, 1) := by decide +kernel
theorem dX7_tell_65 : decode cX7_tell 65 = .ok (.getfield 15, 3) := by decide +kernel
theorem dX7_tell_68 : decode cX7_tell 68 = .ok (.aload_n 2, 1) := by decide +kernel
theorem dX7_tell_69 : decode cX7_tell 69 = .ok (.iconst 0, 1) := by decide +kernel
theorem dX7_tell_70 : decode cX7_tell 70 = .ok (.iload_n 3, 1) := by decide +kernel
theorem dX7_tell_71 : decode cX7_tell 71 = .ok (.iload 4, 2) := by decide +kernel
theorem dX7_tell_73 : decode cX7_tell 73 = .ok (.invokevirtual 29, 3) := by decide +kernel
theorem dX7_tell_76 : decode cX7_tell 76 = .ok (.ifCond .eq 7, 3) := by decide +kernel
theorem dX7_tell_79 : decode cX7_tell 79 = .ok (.iconst 1, 1) := by decide +kernel
theorem dX7_tell_80 : decode cX7_tell 80 = .ok (.goto 4, 3) := by decide +kernel
theorem dX7_tell_83 : decode cX7_tell 83 = .ok (.iconst 0, 1) := by decide +kernel
theorem dX7_tell_84 : decode cX7_tell 84 = .ok (.ireturn, 1) := by decide +kernel
theorem dX7_tell_85 : decode cX7_tell 85 = .ok (.aload_n 0, 1) := by decide +kernel
theorem dX7_tell_86 : decode cX7_tell 86 = .ok (.aload_n 2, 1) := by decide +kernel
theorem dX7_tell_87 : decode cX7_tell 87 = .ok (.iload_n 3, 1) := by decide +kernel
theorem dX7_tell_88 : decode cX7_tell 88 = .ok (.iload 4, 2) := by decide +kernel
theorem dX7_tell_90 : decode cX7_tell 90 = .ok (.invokevirtual 35, 3) := by decide +kernel
theorem dX7_tell_93 : decode cX7_tell 93 = .ok (.ireturn, 1) := by decide +kernel
theorem dX7_tell_94 : decode cX7_tell 94 = .ok (.aload_n 0, 1) := by decide +kernel
theorem dX7_tell_95 : decode cX7_tell 95 = .ok (.aload_n 2, 1) := by decide +kernel
theorem dX7_tell_96 : decode cX7_tell 96 = .ok (.iload_n 3, 1) := by decide +kernel
theorem dX7_tell_97 : decode cX7_tell 97 = .ok (.iload 4, 2) := by decide +kernel
theorem dX7_tell_99 : decode cX7_tell 99 = .ok (.aload_n 0, 1) := by decide +kernel
theorem dX7_tell_100 : decode cX7_tell 100 = .ok (.getfield 19, 3) := by decide +kernel
theorem dX7_tell_103 : decode cX7_tell 103 = .ok (.iload_n 1, 1) := by decide +kernel
theorem dX7_tell_104 : decode cX7_tell 104 = .ok (.iconst 3, 1) := by decide +kernel
theorem dX7_tell_105 : decode cX7_tell 105 = .ok (.invokevirtual 23, 3) := by decide +kernel
theorem dX7_tell_108 : decode cX7_tell 108 = .ok (.invokevirtual 39, 3) := by decide +kernel
theorem dX7_tell_111 : decode cX7_tell 111 = .ok (.ireturn, 1) := by decide +kernel
theorem dX7_tell_112 : decode cX7_tell 112 = .ok (.aload_n 0, 1) := by decide +kernel
theorem dX7_tell_113 : decode cX7_tell 113 = .ok (.getfield 15, 3) := by decide +kernel
theorem dX7_tell_116 : decode cX7_tell 116 = .ok (.aload_n 2, 1) := by decide +kernel
theorem dX7_tell_117 : decode cX7_tell 117 = .ok (.iload_n 3, 1) := by decide +kernel
theorem dX7_tell_118 : decode cX7_tell 118 = .ok (.iload 4, 2) := by decide +kernel
theorem dX7_tell_120 : decode cX7_tell 120 = .ok (.invokevirtual 43, 3) := by decide +kernel
theorem dX7_tell_123 : decode cX7_tell 123 = .ok (.istore 5, 2) := by decide +kernel
theorem dX7_tell_125 : decode cX7_tell 125 = .ok (.iload 5, 2) := by decide +kernel
theorem dX7_tell_127 : decode cX7_tell 127 = .ok (.iconst (-1), 1) := by decide +kernel
theorem dX7_tell_128 : decode cX7_tell 128 = .ok (.if_icmp .ne 8, 3) := by decide +kernel
theorem dX7_tell_131 : decode cX7_tell 131 = .ok (.bipush 99, 2) := by decide +kernel
theorem dX7_tell_133 : decode cX7_tell 133 = .ok (.goto 5, 3) := by decide +kernel
theorem dX7_tell_136 : decode cX7_tell 136 = .ok (.iload 5, 2) := by decide +kernel
theorem dX7_tell_138 : decode cX7_tell 138 = .ok (.ireturn, 1) := by decide +kernel
theorem dX7_tell_139 : decode cX7_tell 139 = .ok (.aload_n 2, 1) := by decide +kernel
theorem dX7_tell_140 : decode cX7_tell 140 = .ok (.iload_n 3, 1) := by decide +kernel
theorem dX7_tell_141 : decode cX7_tell 141 = .ok (.invokevirtual 46, 3) := by decide +kernel
theorem dX7_tell_144 : decode cX7_tell 144 = .ok (.ifCond .eq 7, 3) := by decide +kernel
theorem dX7_tell_147 : decode cX7_tell 147 = .ok (.iconst 0, 1) := by decide +kernel
theorem dX7_tell_148 : decode cX7_tell 148 = .ok (.goto 4, 3) := by decide +kernel
theorem dX7_tell_151 : decode cX7_tell 151 = .ok (.iconst 1, 1) := by decide +kernel
theorem dX7_tell_152 : decode cX7_tell 152 = .ok (.ireturn, 1) := by decide +kernel
theorem dX7_tell_153 : decode cX7_tell 153 = .ok (.iconst (-1), 1) := by decide +kernel
theorem dX7_tell_154 : decode cX7_tell 154 = .ok (.ireturn, 1) := by decide +kernel
theorem dX7_tellTrace_0 : decode cX7_tellTrace 0 = .ok (.aload_n 0, 1) := by decide +kernel
theorem dX7_tellTrace_1 : decode cX7_tellTrace 1 = .ok (.getfield 15, 3) := by decide +kernel
theorem dX7_tellTrace_4 : decode cX7_tellTrace 4 = .ok (.aload_n 1, 1) := by decide +kernel
theorem dX7_tellTrace_5 : decode cX7_tellTrace 5 = .ok (.iconst 0, 1) := by decide +kernel
theorem dX7_tellTrace_6 : decode cX7_tellTrace 6 = .ok (.iload_n 2, 1) := by decide +kernel
theorem dX7_tellTrace_7 : decode cX7_tellTrace 7 = .ok (.iload_n 3, 1) := by decide +kernel
theorem dX7_tellTrace_8 : decode cX7_tellTrace 8 = .ok (.invokevirtual 52, 3) := by decide +kernel
theorem dX7_tellTrace_11 : decode cX7_tellTrace 11 = .ok (.istore 4, 2) := by decide +kernel
theorem dX7_tellTrace_13 : decode cX7_tellTrace 13 = .ok (.aload_n 0, 1) := by decide +kernel
theorem dX7_tellTrace_14 : decode cX7_tellTrace 14 = .ok (.getfield 15, 3) := by decide +kernel
theorem dX7_tellTrace_17 : decode cX7_tellTrace 17 = .ok (.invokevirtual 55, 3) := by decide +kernel
theorem dX7_tellTrace_20 : decode cX7_tellTrace 20 = .ok (.iconst 1, 1) := by decide +kernel
theorem dX7_tellTrace_21 : decode cX7_tellTrace 21 = .ok (.isub, 1) := by decide +kernel
theorem dX7_tellTrace_22 : decode cX7_tellTrace 22 = .ok (.istore 5, 2) := by decide +kernel
theorem dX7_tellTrace_24 : decode cX7_tellTrace 24 = .ok (.iload 4, 2) := by decide +kernel
theorem dX7_tellTrace_26 : decode cX7_tellTrace 26 = .ok (.ifCond .eq 11, 3) := by decide +kernel
theorem dX7_tellTrace_29 : decode cX7_tellTrace 29 = .ok (.iload 5, 2) := by decide +kernel
theorem dX7_tellTrace_31 : decode cX7_tellTrace 31 = .ok (.bipush 100, 2) := by decide +kernel
theorem dX7_tellTrace_33 : decode cX7_tellTrace 33 = .ok (.iadd, 1) := by decide +kernel
theorem dX7_tellTrace_34 : decode cX7_tellTrace 34 = .ok (.goto 5, 3) := by decide +kernel
theorem dX7_tellTrace_37 : decode cX7_tellTrace 37 = .ok (.iload 5, 2) := by decide +kernel
theorem dX7_tellTrace_39 : decode cX7_tellTrace 39 = .ok (.ireturn, 1) := by decide +kernel
theorem dX7_tellCall_0 : decode cX7_tellCall 0 = .ok (.aload_n 1, 1) := by decide +kernel
theorem dX7_tellCall_1 : decode cX7_tellCall 1 = .ok (.invokevirtual 59, 3) := by decide +kernel
theorem dX7_tellCall_4 : decode cX7_tellCall 4 = .ok (.istore 5, 2) := by decide +kernel
theorem dX7_tellCall_6 : decode cX7_tellCall 6 = .ok (.iload 5, 2) := by decide +kernel
theorem dX7_tellCall_8 : decode cX7_tellCall 8 = .ok (.iconst (-1), 1) := by decide +kernel
theorem dX7_tellCall_9 : decode cX7_tellCall 9 = .ok (.if_icmp .eq 28, 3) := by decide +kernel
theorem dX7_tellCall_12 : decode cX7_tellCall 12 = .ok (.aload_n 1, 1) := by decide +kernel
theorem dX7_tellCall_13 : decode cX7_tellCall 13 = .ok (.iload 5, 2) := by decide +kernel
theorem dX7_tellCall_15 : decode cX7_tellCall 15 = .ok (.iconst 1, 1) := by decide +kernel
theorem dX7_tellCall_16 : decode cX7_tellCall 16 = .ok (.invokevirtual 62, 3) := by decide +kernel
theorem dX7_tellCall_19 : decode cX7_tellCall 19 = .ok (.ifCond .eq 18, 3) := by decide +kernel
theorem dX7_tellCall_22 : decode cX7_tellCall 22 = .ok (.aload_n 0, 1) := by decide +kernel
theorem dX7_tellCall_23 : decode cX7_tellCall 23 = .ok (.getfield 15, 3) := by decide +kernel
theorem dX7_tellCall_26 : decode cX7_tellCall 26 = .ok (.aload_n 1, 1) := by decide +kernel
theorem dX7_tellCall_27 : decode cX7_tellCall 27 = .ok (.iconst 1, 1) := by decide +kernel
theorem dX7_tellCall_28 : decode cX7_tellCall 28 = .ok (.iload_n 2, 1) := by decide +kernel
theorem dX7_tellCall_29 : decode cX7_tellCall 29 = .ok (.iload 5, 2) := by decide +kernel
theorem dX7_tellCall_31 : decode cX7_tellCall 31 = .ok (.invokevirtual 29, 3) := by decide +kernel
theorem dX7_tellCall_34 : decode cX7_tellCall 34 = .ok (.ifCond .ne 5, 3) := by decide +kernel
theorem dX7_tellCall_37 : decode cX7_tellCall 37 = .ok (.iconst 1, 1) := by decide +kernel
theorem dX7_tellCall_38 : decode cX7_tellCall 38 = .ok (.ireturn, 1) := by decide +kernel
theorem dX7_tellCall_39 : decode cX7_tellCall 39 = .ok (.aload_n 1, 1) := by decide +kernel
theorem dX7_tellCall_40 : decode cX7_tellCall 40 = .ok (.iload_n 3, 1) := by decide +kernel
theorem dX7_tellCall_41 : decode cX7_tellCall 41 = .ok (.invokevirtual 66, 3) := by decide +kernel
theorem dX7_tellCall_44 : decode cX7_tellCall 44 = .ok (.istore 6, 2) := by decide +kernel
theorem dX7_tellCall_46 : decode cX7_tellCall 46 = .ok (.iload 6, 2) := by decide +kernel
theorem dX7_tellCall_48 : decode cX7_tellCall 48 = .ok (.iconst (-1), 1) := by decide +kernel
theorem dX7_tellCall_49 : decode cX7_tellCall 49 = .ok (.if_icmp .ne 5, 3) := by decide +kernel
theorem dX7_tellCall_52 : decode cX7_tellCall 52 = .ok (.iconst 2, 1) := by decide +kernel
theorem dX7_tellCall_53 : decode cX7_tellCall 53 = .ok (.ireturn, 1) := by decide +kernel
theorem dX7_tellCall_54 : decode cX7_tellCall 54 = .ok (.aload_n 0, 1) := by decide +kernel
theorem dX7_tellCall_55 : decode cX7_tellCall 55 = .ok (.getfield 15, 3) := by decide +kernel
theorem dX7_tellCall_58 : decode cX7_tellCall 58 = .ok (.aload_n 1, 1) := by decide +kernel
theorem dX7_tellCall_59 : decode cX7_tellCall 59 = .ok (.iload 4, 2) := by decide +kernel
theorem dX7_tellCall_61 : decode cX7_tellCall 61 = .ok (.iload_n 2, 1) := by decide +kernel
theorem dX7_tellCall_62 : decode cX7_tellCall 62 = .ok (.iload 6, 2) := by decide +kernel
theorem dX7_tellCall_64 : decode cX7_tellCall 64 = .ok (.invokevirtual 29, 3) := by decide +kernel
theorem dX7_tellCall_67 : decode cX7_tellCall 67 = .ok (.ifCond .ne 5, 3) := by decide +kernel
theorem dX7_tellCall_70 : decode cX7_tellCall 70 = .ok (.iconst 3, 1) := by decide +kernel
theorem dX7_tellCall_71 : decode cX7_tellCall 71 = .ok (.ireturn, 1) := by decide +kernel
theorem dX7_tellCall_72 : decode cX7_tellCall 72 = .ok (.aload_n 1, 1) := by decide +kernel
theorem dX7_tellCall_73 : decode cX7_tellCall 73 = .ok (.iload 6, 2) := by decide +kernel
theorem dX7_tellCall_75 : decode cX7_tellCall 75 = .ok (.iload 4, 2) := by decide +kernel
theorem dX7_tellCall_77 : decode cX7_tellCall 77 = .ok (.invokevirtual 62, 3) := by decide +kernel
theorem dX7_tellCall_80 : decode cX7_tellCall 80 = .ok (.ifCond .eq 11, 3) := by decide +kernel
theorem dX7_tellCall_83 : decode cX7_tellCall 83 = .ok (.bipush 10, 2) := by decide +kernel
theorem dX7_tellCall_85 : decode cX7_tellCall 85 = .ok (.iload 6, 2) := by decide +kernel
theorem dX7_tellCall_87 : decode cX7_tellCall 87 = .ok (.iadd, 1) := by decide +kernel
theorem dX7_tellCall_88 : decode cX7_tellCall 88 = .ok (.goto 4, 3) := by decide +kernel
theorem dX7_tellCall_91 : decode cX7_tellCall 91 = .ok (.iconst 4, 1) := by decide +kernel
theorem dX7_tellCall_92 : decode cX7_tellCall 92 = .ok (.ireturn, 1) := by decide +kernel
theorem dX8_init_0 : decode cX8_init 0 = .ok (.aload_n 0, 1) := by decide +kernel
theorem dX8_init_1 : decode cX8_init 1 = .ok (.invokespecial 3, 3) := by decide +kernel
theorem dX8_init_4 : decode cX8_init 4 = .ok (.aload_n 0, 1) := by decide +kernel
theorem dX8_init_5 : decode cX8_init 5 = .ok (.new 9, 3) := by decide +kernel
theorem dX8_init_8 : decode cX8_init 8 = .ok (.dup, 1) := by decide +kernel
theorem dX8_init_9 : decode cX8_init 9 = .ok (.invokespecial 11, 3) := by decide +kernel
theorem dX8_init_12 : decode cX8_init 12 = .ok (.putfield 12, 3) := by decide +kernel
theorem dX8_init_15 : decode cX8_init 15 = .ok (.aload_n 0, 1) := by decide +kernel
theorem dX8_init_16 : decode cX8_init 16 = .ok (.new 16, 3) := by decide +kernel
theorem dX8_init_19 : decode cX8_init 19 = .ok (.dup, 1) := by decide +kernel
theorem dX8_init_20 : decode cX8_init 20 = .ok (.invokespecial 18, 3) := by decide +kernel
theorem dX8_init_23 : decode cX8_init 23 = .ok (.putfield 19, 3) := by decide +kernel
theorem dX8_init_26 : decode cX8_init 26 = .ok (.aload_n 0, 1) := by decide +kernel
theorem dX8_init_27 : decode cX8_init 27 = .ok (.new 16, 3) := by decide +kernel
theorem dX8_init_30 : decode cX8_init 30 = .ok (.dup, 1) := by decide +kernel
theorem dX8_init_31 : decode cX8_init 31 = .ok (.invokespecial 18, 3) := by decide +kernel
theorem dX8_init_34 : decode cX8_init 34 = .ok (.putfield 23, 3) := by decide +kernel
theorem dX8_init_37 : decode cX8_init 37 = .ok (.aload_n 0, 1) := by decide +kernel
theorem dX8_init_38 : decode cX8_init 38 = .ok (.new 26, 3) := by decide +kernel
theorem dX8_init_41 : decode cX8_init 41 = .ok (.dup, 1) := by decide +kernel
theorem dX8_init_42 : decode cX8_init 42 = .ok (.aload_n 0, 1) := by decide +kernel
theorem dX8_init_43 : decode cX8_init 43 = .ok (.getfield 12, 3) := by decide +kernel
theorem dX8_init_46 : decode cX8_init 46 = .ok (.invokespecial 28, 3) := by decide +kernel
theorem dX8_init_49 : decode cX8_init 49 = .ok (.putfield 31, 3) := by decide +kernel
theorem dX8_init_52 : decode cX8_init 52 = .ok (.aload_n 0, 1) := by decide +kernel
theorem dX8_init_53 : decode cX8_init 53 = .ok (.new 35, 3) := by decide +kernel
theorem dX8_init_56 : decode cX8_init 56 = .ok (.dup, 1) := by decide +kernel
theorem dX8_init_57 : decode cX8_init 57 = .ok (.invokespecial 37, 3) := by decide +kernel
theorem dX8_init_60 : decode cX8_init 60 = .ok (.putfield 38, 3) := by decide +kernel
theorem dX8_init_63 : decode cX8_init 63 = .ok (.aload_n 0, 1) := by decide +kernel
theorem dX8_init_64 : decode cX8_init 64 = .ok (.new 35, 3) := by decide +kernel
theorem dX8_init_67 : decode cX8_init 67 = .ok (.dup, 1) := by decide +kernel
theorem dX8_init_68 : decode cX8_init 68 = .ok (.invokespecial 37, 3) := by decide +kernel
theorem dX8_init_71 : decode cX8_init 71 = .ok (.putfield 42, 3) := by decide +kernel
theorem dX8_init_74 : decode cX8_init 74 = .ok (.aload_n 0, 1) := by decide +kernel
theorem dX8_init_75 : decode cX8_init 75 = .ok (.new 35, 3) := by decide +kernel
theorem dX8_init_78 : decode cX8_init 78 = .ok (.dup, 1) := by decide +kernel
theorem dX8_init_79 : decode cX8_init 79 = .ok (.invokespecial 37, 3) := by decide +kernel
theorem dX8_init_82 : decode cX8_init 82 = .ok (.putfield 45, 3) := by decide +kernel
theorem dX8_init_85 : decode cX8_init 85 = .ok (.aload_n 0, 1) := by decide +kernel
theorem dX8_init_86 : decode cX8_init 86 = .ok (.new 48, 3) := by decide +kernel
theorem dX8_init_89 : decode cX8_init 89 = .ok (.dup, 1) := by decide +kernel
theorem dX8_init_90 : decode cX8_init 90 = .ok (.aload_n 0, 1) := by decide +kernel
theorem dX8_init_91 : decode cX8_init 91 = .ok (.getfield 12, 3) := by decide +kernel
theorem dX8_init_94 : decode cX8_init 94 = .ok (.aload_n 0, 1) := by decide +kernel
theorem dX8_init_95 : decode cX8_init 95 = .ok (.getfield 31, 3) := by decide +kernel
theorem dX8_init_98 : decode cX8_init 98 = .ok (.aload_n 0, 1) := by decide +kernel
theorem dX8_init_99 : decode cX8_init 99 = .ok (.getfield 45, 3) := by decide +kernel
theorem dX8_init_102 : decode cX8_init 102 = .ok (.invokespecial 50, 3) := by decide +kernel
theorem dX8_init_105 : decode cX8_init 105 = .ok (.putfield 53, 3) := by decide +kernel
theorem dX8_init_108 : decode cX8_init 108 = .ok (.aload_n 0, 1) := by decide +kernel
theorem dX8_init_109 : decode cX8_init 109 = .ok (.new 57, 3) := by decide +kernel
theorem dX8_init_112 : decode cX8_init 112 = .ok (.dup, 1) := by decide +kernel
theorem dX8_init_113 : decode cX8_init 113 = .ok (.invokespecial 59, 3) := by decide +kernel
theorem dX8_init_116 : decode cX8_init 116 = .ok (.putfield 60, 3) := by decide +kernel
theorem dX8_init_119 : decode cX8_init 119 = .ok (.aload_n 0, 1) := by decide +kernel
theorem dX8_init_120 : decode cX8_init 120 = .ok (.new 64, 3) := by decide +kernel
theorem dX8_init_123 : decode cX8_init 123 = .ok (.dup, 1) := by decide +kernel
theorem dX8_init_124 : decode cX8_init 124 = .ok (.invokespecial 66, 3) := by decide +kernel
theorem dX8_init_127 : decode cX8_init 127 = .ok (.putfield 67, 3) := by decide +kernel
theorem dX8_init_130 : decode cX8_init 130 = .ok (.aload_n 0, 1) := by decide +kernel
theorem dX8_init_131 : decode cX8_init 131 = .ok (.new 71, 3) := by decide +kernel
theorem dX8_init_134 : decode cX8_init 134 = .ok (.dup, 1) := by decide +kernel
theorem dX8_init_135 : decode cX8_init 135 = .ok (.invokespecial 73, 3) := by decide +kernel
theorem dX8_init_138 : decode cX8_init 138 = .ok (.putfield 74, 3) := by decide +kernel
theorem dX8_init_141 : decode cX8_init 141 = .ok (.return_, 1) := by decide +kernel
theorem dX8_node_0 : decode cX8_node 0 = .ok (.aload_n 0, 1) := by decide +kernel
theorem dX8_node_1 : decode cX8_node 1 = .ok (.aload_n 0, 1) := by decide +kernel
theorem dX8_node_2 : decode cX8_node 2 = .ok (.getfield 12, 3) := by decide +kernel
theorem dX8_node_5 : decode cX8_node 5 = .ok (.iload_n 1, 1) := by decide +kernel
theorem dX8_node_6 : decode cX8_node 6 = .ok (.invokevirtual 78, 3) := by decide +kernel
theorem dX8_node_9 : decode cX8_node 9 = .ok (.invokevirtual 82, 3) := by decide +kernel
theorem dX8_node_12 : decode cX8_node 12 = .ok (.ireturn, 1) := by decide +kernel
theorem dX8_line_0 : decode cX8_line 0 = .ok (.aload_n 0, 1) := by decide +kernel
theorem dX8_line_1 : decode cX8_line 1 = .ok (.aload_n 0, 1) := by decide +kernel
theorem dX8_line_2 : decode cX8_line 2 = .ok (.getfield 12, 3) := by decide +kernel
theorem dX8_line_5 : decode cX8_line 5 = .ok (.iload_n 1, 1) := by decide +kernel
theorem dX8_line_6 : decode cX8_line 6 = .ok (.iload_n 2, 1) := by decide +kernel
theorem dX8_line_7 : decode cX8_line 7 = .ok (.invokevirtual 85, 3) := by decide +kernel
theorem dX8_line_10 : decode cX8_line 10 = .ok (.invokevirtual 82, 3) := by decide +kernel
theorem dX8_line_13 : decode cX8_line 13 = .ok (.ireturn, 1) := by decide +kernel
theorem dX8_route_0 : decode cX8_route 0 = .ok (.aload_n 0, 1) := by decide +kernel
theorem dX8_route_1 : decode cX8_route 1 = .ok (.getfield 12, 3) := by decide +kernel
theorem dX8_route_4 : decode cX8_route 4 = .ok (.iload_n 1, 1) := by decide +kernel
theorem dX8_route_5 : decode cX8_route 5 = .ok (.invokevirtual 89, 3) := by decide +kernel
theorem dX8_route_8 : decode cX8_route 8 = .ok (.ifCond .eq 23, 3) := by decide +kernel
theorem dX8_route_11 : decode cX8_route 11 = .ok (.aload_n 0, 1) := by decide +kernel
theorem dX8_route_12 : decode cX8_route 12 = .ok (.getfield 12, 3) := by decide +kernel
theorem dX8_route_15 : decode cX8_route 15 = .ok (.iload_n 2, 1) := by decide +kernel
theorem dX8_route_16 : decode cX8_route 16 = .ok (.invokevirtual 93, 3) := by decide +kernel
theorem dX8_route_19 : decode cX8_route 19 = .ok (.ifCond .eq 12, 3) := by decide +kernel
theorem dX8_route_22 : decode cX8_route 22 = .ok (.iload_n 3, 1) := by decide +kernel
theorem dX8_route_23 : decode cX8_route 23 = .ok (.iload_n 1, 1) := by decide +kernel
theorem dX8_route_24 : decode cX8_route 24 = .ok (.if_icmp .eq 7, 3) := by decide +kernel
theorem dX8_route_27 : decode cX8_route 27 = .ok (.iconst 1, 1) := by decide +kernel
theorem dX8_route_28 : decode cX8_route 28 = .ok (.goto 4, 3) := by decide +kernel
theorem dX8_route_31 : decode cX8_route 31 = .ok (.iconst 0, 1) := by decide +kernel
theorem dX8_route_32 : decode cX8_route 32 = .ok (.istore 4, 2) := by decide +kernel
theorem dX8_route_34 : decode cX8_route 34 = .ok (.iload 4, 2) := by decide +kernel
theorem dX8_route_36 : decode cX8_route 36 = .ok (.ifCond .eq 19, 3) := by decide +kernel
theorem dX8_route_39 : decode cX8_route 39 = .ok (.iload_n 3, 1) := by decide +kernel
theorem dX8_route_40 : decode cX8_route 40 = .ok (.iconst (-1), 1) := by decide +kernel
theorem dX8_route_41 : decode cX8_route 41 = .ok (.if_icmp .eq 16, 3) := by decide +kernel
theorem dX8_route_44 : decode cX8_route 44 = .ok (.aload_n 0, 1) := by decide +kernel
theorem dX8_route_45 : decode cX8_route 45 = .ok (.getfield 12, 3) := by decide +kernel
theorem dX8_route_48 : decode cX8_route 48 = .ok (.iload_n 3, 1) := by decide +kernel
theorem dX8_route_49 : decode cX8_route 49 = .ok (.invokevirtual 96, 3) := by decide +kernel
theorem dX8_route_52 : decode cX8_route 52 = .ok (.ifCond .ne 5, 3) := by decide +kernel
theorem dX8_route_55 : decode cX8_route 55 = .ok (.iconst 0, 1) := by decide +kernel
theorem dX8_route_56 : decode cX8_route 56 = .ok (.ireturn, 1) := by decide +kernel
theorem dX8_route_57 : decode cX8_route 57 = .ok (.aload_n 0, 1) := by decide +kernel
theorem dX8_route_58 : decode cX8_route 58 = .ok (.getfield 19, 3) := by decide +kernel
theorem dX8_route_61 : decode cX8_route 61 = .ok (.iload_n 1, 1) := by decide +kernel
theorem dX8_route_62 : decode cX8_route 62 = .ok (.iload_n 2, 1) := by decide +kernel
theorem dX8_route_63 : decode cX8_route 63 = .ok (.iload_n 3, 1) := by decide +kernel
theorem dX8_route_64 : decode cX8_route 64 = .ok (.invokevirtual 99, 3) := by decide +kernel
theorem dX8_route_67 : decode cX8_route 67 = .ok (.aload_n 0, 1) := by decide +kernel
theorem dX8_route_68 : decode cX8_route 68 = .ok (.invokevirtual 103, 3) := by decide +kernel
theorem dX8_route_71 : decode cX8_route 71 = .ok (.iconst 1, 1) := by decide +kernel
theorem dX8_route_72 : decode cX8_route 72 = .ok (.ireturn, 1) := by decide +kernel
theorem dX8_deny_0 : decode cX8_deny 0 = .ok (.aload_n 0, 1) := by decide +kernel
theorem dX8_deny_1 : decode cX8_deny 1 = .ok (.getfield 12, 3) := by decide +kernel
theorem dX8_deny_4 : decode cX8_deny 4 = .ok (.iload_n 1, 1) := by decide +kernel
theorem dX8_deny_5 : decode cX8_deny 5 = .ok (.invokevirtual 106, 3) := by decide +kernel
theorem dX8_deny_8 : decode cX8_deny 8 = .ok (.ifCond .eq 21, 3) := by decide +kernel
theorem dX8_deny_11 : decode cX8_deny 11 = .ok (.aload_n 0, 1) := by decide +kernel
theorem dX8_deny_12 : decode cX8_deny 12 = .ok (.getfield 12, 3) := by decide +kernel
theorem dX8_deny_15 : decode cX8_deny 15 = .ok (.iload_n 2, 1) := by decide +kernel
theorem dX8_deny_16 : decode cX8_deny 16 = .ok (.invokevirtual 93, 3) := by decide +kernel
theorem dX8_deny_19 : decode cX8_deny 19 = .ok (.ifCond .eq 10, 3) := by decide +kernel
theorem dX8_deny_22 : decode cX8_deny 22 = .ok (.iload_n 3, 1) := by decide +kernel
theorem dX8_deny_23 : decode cX8_deny 23 = .ok (.invokestatic 109, 3) := by decide +kernel
theorem dX8_deny_26 : decode cX8_deny 26 = .ok (.ifCond .ne 5, 3) := by decide +kernel
theorem dX8_deny_29 : decode cX8_deny 29 = .ok (.iconst 0, 1) := by decide +kernel
theorem dX8_deny_30 : decode cX8_deny 30 = .ok (.ireturn, 1) := by decide +kernel
theorem dX8_deny_31 : decode cX8_deny 31 = .ok (.aload_n 0, 1) := by decide +kernel
theorem dX8_deny_32 : decode cX8_deny 32 = .ok (.getfield 19, 3) := by decide +kernel
theorem dX8_deny_35 : decode cX8_deny 35 = .ok (.iload_n 1, 1) := by decide +kernel
theorem dX8_deny_36 : decode cX8_deny 36 = .ok (.iload_n 2, 1) := by decide +kernel
theorem dX8_deny_37 : decode cX8_deny 37 = .ok (.iload_n 3, 1) := by decide +kernel
theorem dX8_deny_38 : decode cX8_deny 38 = .ok (.iload 4, 2) := by decide +kernel
theorem dX8_deny_40 : decode cX8_deny 40 = .ok (.invokevirtual 112, 3) := by decide +kernel
theorem dX8_deny_43 : decode cX8_deny 43 = .ok (.aload_n 0, 1) := by decide +kernel
theorem dX8_deny_44 : decode cX8_deny 44 = .ok (.invokevirtual 103, 3) := by decide +kernel
theorem dX8_deny_47 : decode cX8_deny 47 = .ok (.iconst 1, 1) := by decide +kernel
theorem dX8_deny_48 : decode cX8_deny 48 = .ok (.ireturn, 1) := by decide +kernel
theorem dX8_on_0 : decode cX8_on 0 = .ok (.aload_n 0, 1) := by decide +kernel
theorem dX8_on_1 : decode cX8_on 1 = .ok (.getfield 12, 3) := by decide +kernel
theorem dX8_on_4 : decode cX8_on 4 = .ok (.iload_n 1, 1) := by decide +kernel
theorem dX8_on_5 : decode cX8_on 5 = .ok (.invokevirtual 93, 3) := by decide +kernel
theorem dX8_on_8 : decode cX8_on 8 = .ok (.ifCond .eq 10, 3) := by decide +kernel
theorem dX8_on_11 : decode cX8_on 11 = .ok (.iload_n 2, 1) := by decide +kernel
theorem dX8_on_12 : decode cX8_on 12 = .ok (.invokestatic 109, 3) := by decide +kernel
theorem dX8_on_15 : decode cX8_on 15 = .ok (.ifCond .ne 5, 3) := by decide +kernel
theorem dX8_on_18 : decode cX8_on 18 = .ok (.iconst 0, 1) := by decide +kernel
theorem dX8_on_19 : decode cX8_on 19 = .ok (.ireturn, 1) := by decide +kernel
theorem dX8_on_20 : decode cX8_on 20 = .ok (.aload_n 0, 1) := by decide +kernel
theorem dX8_on_21 : decode cX8_on 21 = .ok (.getfield 19, 3) := by decide +kernel
theorem dX8_on_24 : decode cX8_on 24 = .ok (.iload_n 1, 1) := by decide +kernel
theorem dX8_on_25 : decode cX8_on 25 = .ok (.iload_n 2, 1) := by decide +kernel
theorem dX8_on_26 : decode cX8_on 26 = .ok (.iload_n 3, 1) := by decide +kernel
theorem dX8_on_27 : decode cX8_on 27 = .ok (.invokevirtual 116, 3) := by decide +kernel
theorem dX8_on_30 : decode cX8_on 30 = .ok (.aload_n 0, 1) := by decide +kernel
theorem dX8_on_31 : decode cX8_on 31 = .ok (.invokevirtual 103, 3) := by decide +kernel
theorem dX8_on_34 : decode cX8_on 34 = .ok (.iconst 1, 1) := by decide +kernel
theorem dX8_on_35 : decode cX8_on 35 = .ok (.ireturn, 1) := by decide +kernel
theorem dX8_name_0 : decode cX8_name 0 = .ok (.iload_n 1, 1) := by decide +kernel
theorem dX8_name_1 : decode cX8_name 1 = .ok (.invokestatic 120, 3) := by decide +kernel
theorem dX8_name_4 : decode cX8_name 4 = .ok (.ifCond .eq 19, 3) := by decide +kernel
theorem dX8_name_7 : decode cX8_name 7 = .ok (.iload_n 2, 1) := by decide +kernel
theorem dX8_name_8 : decode cX8_name 8 = .ok (.iconst (-1), 1) := by decide +kernel
theorem dX8_name_9 : decode cX8_name 9 = .ok (.if_icmp .eq 16, 3) := by decide +kernel
theorem dX8_name_12 : decode cX8_name 12 = .ok (.aload_n 0, 1) := by decide +kernel
theorem dX8_name_13 : decode cX8_name 13 = .ok (.getfield 12, 3) := by decide +kernel
theorem dX8_name_16 : decode cX8_name 16 = .ok (.iload_n 2, 1) := by decide +kernel
theorem dX8_name_17 : decode cX8_name 17 = .ok (.invokevirtual 93, 3) := by decide +kernel
theorem dX8_name_20 : decode cX8_name 20 = .ok (.ifCond .ne 5, 3) := by decide +kernel
theorem dX8_name_23 : decode cX8_name 23 = .ok (.iconst 0, 1) := by decide +kernel
theorem dX8_name_24 : decode cX8_name 24 = .ok (.ireturn, 1) := by decide +kernel
theorem dX8_name_25 : decode cX8_name 25 = .ok (.aload_n 0, 1) := by decide +kernel
theorem dX8_name_26 : decode cX8_name 26 = .ok (.getfield 19, 3) := by decide +kernel
theorem dX8_name_29 : decode cX8_name 29 = .ok (.iload_n 1, 1) := by decide +kernel
theorem dX8_name_30 : decode cX8_name 30 = .ok (.iload_n 2, 1) := by decide +kernel
theorem dX8_name_31 : decode cX8_name 31 = .ok (.invokevirtual 123, 3) := by decide +kernel
theorem dX8_name_34 : decode cX8_name 34 = .ok (.aload_n 0, 1) := by decide +kernel
theorem dX8_name_35 : decode cX8_name 35 = .ok (.invokevirtual 103, 3) := by decide +kernel
theorem dX8_name_38 : decode cX8_name 38 = .ok (.iconst 1, 1) := by decide +kernel
theorem dX8_name_39 : decode cX8_name 39 = .ok (.ireturn, 1) := by decide +kernel
theorem dX8_namer_0 : decode cX8_namer 0 = .ok (.iload_n 1, 1) := by decide +kernel
theorem dX8_namer_1 : decode cX8_namer 1 = .ok (.iconst (-1), 1) := by decide +kernel
theorem dX8_namer_2 : decode cX8_namer 2 = .ok (.if_icmp .eq 16, 3) := by decide +kernel
theorem dX8_namer_5 : decode cX8_namer 5 = .ok (.aload_n 0, 1) := by decide +kernel
theorem dX8_namer_6 : decode cX8_namer 6 = .ok (.getfield 12, 3) := by decide +kernel
theorem dX8_namer_9 : decode cX8_namer 9 = .ok (.iload_n 1, 1) := by decide +kernel
theorem dX8_namer_10 : decode cX8_namer 10 = .ok (.invokevirtual 93, 3) := by decide +kernel
theorem dX8_namer_13 : decode cX8_namer 13 = .ok (.ifCond .ne 5, 3) := by decide +kernel
theorem dX8_namer_16 : decode cX8_namer 16 = .ok (.iconst 0, 1) := by decide +kernel
theorem dX8_namer_17 : decode cX8_namer 17 = .ok (.ireturn, 1) := by decide +kernel
theorem dX8_namer_18 : decode cX8_namer 18 = .ok (.aload_n 0, 1) := by decide +kernel
theorem dX8_namer_19 : decode cX8_namer 19 = .ok (.getfield 19, 3) := by decide +kernel
theorem dX8_namer_22 : decode cX8_namer 22 = .ok (.iload_n 1, 1) := by decide +kernel
theorem dX8_namer_23 : decode cX8_namer 23 = .ok (.invokevirtual 127, 3) := by decide +kernel
theorem dX8_namer_26 : decode cX8_namer 26 = .ok (.aload_n 0, 1) := by decide +kernel
theorem dX8_namer_27 : decode cX8_namer 27 = .ok (.invokevirtual 103, 3) := by decide +kernel
theorem dX8_namer_30 : decode cX8_namer 30 = .ok (.iconst 1, 1) := by decide +kernel
theorem dX8_namer_31 : decode cX8_namer 31 = .ok (.ireturn, 1) := by decide +kernel
theorem dX8_clear_0 : decode cX8_clear 0 = .ok (.aload_n 0, 1) := by decide +kernel
theorem dX8_clear_1 : decode cX8_clear 1 = .ok (.getfield 12, 3) := by decide +kernel
theorem dX8_clear_4 : decode cX8_clear 4 = .ok (.invokevirtual 131, 3) := by decide +kernel
theorem dX8_clear_7 : decode cX8_clear 7 = .ok (.istore_n 1, 1) := by decide +kernel
theorem dX8_clear_8 : decode cX8_clear 8 = .ok (.aload_n 0, 1) := by decide +kernel
theorem dX8_clear_9 : decode cX8_clear 9 = .ok (.getfield 12, 3) := by decide +kernel
theorem dX8_clear_12 : decode cX8_clear 12 = .ok (.invokevirtual 135, 3) := by decide +kernel
theorem dX8_clear_15 : decode cX8_clear 15 = .ok (.aload_n 0, 1) := by decide +kernel
theorem dX8_clear_16 : decode cX8_clear 16 = .ok (.getfield 19, 3) := by decide +kernel
theorem dX8_clear_19 : decode cX8_clear 19 = .ok (.invokevirtual 138, 3) := by decide +kernel
theorem dX8_clear_22 : decode cX8_clear 22 = .ok (.aload_n 0, 1) := by decide +kernel
theorem dX8_clear_23 : decode cX8_clear 23 = .ok (.getfield 38, 3) := by decide +kernel
theorem dX8_clear_26 : decode cX8_clear 26 = .ok (.invokevirtual 139, 3) := by decide +kernel
theorem dX8_clear_29 : decode cX8_clear 29 = .ok (.aload_n 0, 1) := by decide +kernel
theorem dX8_clear_30 : decode cX8_clear 30 = .ok (.getfield 42, 3) := by decide +kernel
theorem dX8_clear_33 : decode cX8_clear 33 = .ok (.invokevirtual 139, 3) := by decide +kernel
theorem dX8_clear_36 : decode cX8_clear 36 = .ok (.aload_n 0, 1) := by decide +kernel
theorem dX8_clear_37 : decode cX8_clear 37 = .ok (.getfield 45, 3) := by decide +kernel
theorem dX8_clear_40 : decode cX8_clear 40 = .ok (.invokevirtual 139, 3) := by decide +kernel
theorem dX8_clear_43 : decode cX8_clear 43 = .ok (.aload_n 0, 1) := by decide +kernel
theorem dX8_clear_44 : decode cX8_clear 44 = .ok (.getfield 74, 3) := by decide +kernel
theorem dX8_clear_47 : decode cX8_clear 47 = .ok (.invokevirtual 140, 3) := by decide +kernel
theorem dX8_clear_50 : decode cX8_clear 50 = .ok (.aload_n 0, 1) := by decide +kernel
theorem dX8_clear_51 : decode cX8_clear 51 = .ok (.invokevirtual 103, 3) := by decide +kernel
theorem dX8_clear_54 : decode cX8_clear 54 = .ok (.iload_n 1, 1) := by decide +kernel
theorem dX8_clear_55 : decode cX8_clear 55 = .ok (.ireturn, 1) := by decide +kernel
theorem dX8_count_0 : decode cX8_count 0 = .ok (.iload_n 1, 1) := by decide +kernel
theorem dX8_count_1 : decode cX8_count 1 = .ok (.tableswitch 107 0 6 #[43, 51, 59, 67, 75, 83, 91], 43) := by decide +kernel
theorem dX8_count_44 : decode cX8_count 44 = .ok (.aload_n 0, 1) := by decide +kernel
theorem dX8_count_45 : decode cX8_count 45 = .ok (.getfield 12, 3) := by decide +kernel
theorem dX8_count_48 : decode cX8_count 48 = .ok (.invokevirtual 131, 3) := by decide +kernel
theorem dX8_count_51 : decode cX8_count 51 = .ok (.ireturn, 1) := by decide +kernel
theorem dX8_count_52 : decode cX8_count 52 = .ok (.aload_n 0, 1) := by decide +kernel
theorem dX8_count_53 : decode cX8_count 53 = .ok (.getfield 12, 3) := by decide +kernel
theorem dX8_count_56 : decode cX8_count 56 = .ok (.invokevirtual 141, 3) := by decide +kernel
theorem dX8_count_59 : decode cX8_count 59 = .ok (.ireturn, 1) := by decide +kernel
theorem dX8_count_60 : decode cX8_count 60 = .ok (.aload_n 0, 1) := by decide +kernel
theorem dX8_count_61 : decode cX8_count 61 = .ok (.getfield 38, 3) := by decide +kernel
theorem dX8_count_64 : decode cX8_count 64 = .ok (.invokevirtual 144, 3) := by decide +kernel
theorem dX8_count_67 : decode cX8_count 67 = .ok (.ireturn, 1) := by decide +kernel
theorem dX8_count_68 : decode cX8_count 68 = .ok (.aload_n 0, 1) := by decide +kernel
theorem dX8_count_69 : decode cX8_count 69 = .ok (.getfield 42, 3) := by decide +kernel
theorem dX8_count_72 : decode cX8_count 72 = .ok (.invokevirtual 144, 3) := by decide +kernel
theorem dX8_count_75 : decode cX8_count 75 = .ok (.ireturn, 1) := by decide +kernel
theorem dX8_count_76 : decode cX8_count 76 = .ok (.aload_n 0, 1) := by decide +kernel
theorem dX8_count_77 : decode cX8_count 77 = .ok (.getfield 45, 3) := by decide +kernel
theorem dX8_count_80 : decode cX8_count 80 = .ok (.invokevirtual 144, 3) := by decide +kernel
theorem dX8_count_83 : decode cX8_count 83 = .ok (.ireturn, 1) := by decide +kernel
theorem dX8_count_84 : decode cX8_count 84 = .ok (.aload_n 0, 1) := by decide +kernel
theorem dX8_count_85 : decode cX8_count 85 = .ok (.getfield 74, 3) := by decide +kernel
theorem dX8_count_88 : decode cX8_count 88 = .ok (.invokevirtual 147, 3) := by decide +kernel
theorem dX8_count_91 : decode cX8_count 91 = .ok (.ireturn, 1) := by decide +kernel
theorem dX8_count_92 : decode cX8_count 92 = .ok (.aload_n 0, 1) := by decide +kernel
theorem dX8_count_93 : decode cX8_count 93 = .ok (.getfield 67, 3) := by decide +kernel
theorem dX8_count_96 : decode cX8_count 96 = .ok (.invokevirtual 148, 3) := by decide +kernel
theorem dX8_count_99 : decode cX8_count 99 = .ok (.ifCond .eq 7, 3) := by decide +kernel
theorem dX8_count_102 : decode cX8_count 102 = .ok (.iconst 1, 1) := by decide +kernel
theorem dX8_count_103 : decode cX8_count 103 = .ok (.goto 4, 3) := by decide +kernel
theorem dX8_count_106 : decode cX8_count 106 = .ok (.iconst 0, 1) := by decide +kernel
theorem dX8_count_107 : decode cX8_count 107 = .ok (.ireturn, 1) := by decide +kernel
theorem dX8_count_108 : decode cX8_count 108 = .ok (.iconst (-1), 1) := by decide +kernel
theorem dX8_count_109 : decode cX8_count 109 = .ok (.ireturn, 1) := by decide +kernel
theorem dX8_next_0 : decode cX8_next 0 = .ok (.aload_n 0, 1) := by decide +kernel
theorem dX8_next_1 : decode cX8_next 1 = .ok (.getfield 12, 3) := by decide +kernel
theorem dX8_next_4 : decode cX8_next 4 = .ok (.iload_n 1, 1) := by decide +kernel
theorem dX8_next_5 : decode cX8_next 5 = .ok (.invokevirtual 96, 3) := by decide +kernel
theorem dX8_next_8 : decode cX8_next 8 = .ok (.ifCond .eq 19, 3) := by decide +kernel
theorem dX8_next_11 : decode cX8_next 11 = .ok (.aload_n 0, 1) := by decide +kernel
theorem dX8_next_12 : decode cX8_next 12 = .ok (.getfield 12, 3) := by decide +kernel
theorem dX8_next_15 : decode cX8_next 15 = .ok (.iload_n 2, 1) := by decide +kernel
theorem dX8_next_16 : decode cX8_next 16 = .ok (.invokevirtual 96, 3) := by decide +kernel
theorem dX8_next_19 : decode cX8_next 19 = .ok (.ifCond .eq 8, 3) := by decide +kernel
theorem dX8_next_22 : decode cX8_next 22 = .ok (.iload_n 1, 1) := by decide +kernel
theorem dX8_next_23 : decode cX8_next 23 = .ok (.iload_n 2, 1) := by decide +kernel
theorem dX8_next_24 : decode cX8_next 24 = .ok (.if_icmp .ne 5, 3) := by decide +kernel
theorem dX8_next_27 : decode cX8_next 27 = .ok (.iconst (-1), 1) := by decide +kernel
theorem dX8_next_28 : decode cX8_next 28 = .ok (.ireturn, 1) := by decide +kernel
theorem dX8_next_29 : decode cX8_next 29 = .ok (.iload_n 3, 1) := by decide +kernel
theorem dX8_next_30 : decode cX8_next 30 = .ok (.ifCond .ne 17, 3) := by decide +kernel
theorem dX8_next_33 : decode cX8_next 33 = .ok (.aload_n 0, 1) := by decide +kernel
theorem dX8_next_34 : decode cX8_next 34 = .ok (.getfield 31, 3) := by decide +kernel
theorem dX8_next_37 : decode cX8_next 37 = .ok (.aload_n 0, 1) := by decide +kernel
theorem dX8_next_38 : decode cX8_next 38 = .ok (.getfield 19, 3) := by decide +kernel
theorem dX8_next_41 : decode cX8_next 41 = .ok (.iload_n 1, 1) := by decide +kernel
theorem dX8_next_42 : decode cX8_next 42 = .ok (.iload_n 2, 1) := by decide +kernel
theorem dX8_next_43 : decode cX8_next 43 = .ok (.invokevirtual 152, 3) := by decide +kernel
theorem dX8_next_46 : decode cX8_next 46 = .ok (.ireturn, 1) := by decide +kernel
theorem dX8_next_47 : decode cX8_next 47 = .ok (.iload_n 3, 1) := by decide +kernel
theorem dX8_next_48 : decode cX8_next 48 = .ok (.iconst 1, 1) := by decide +kernel
theorem dX8_next_49 : decode cX8_next 49 = .ok (.if_icmp .ne 15, 3) := by decide +kernel
theorem dX8_next_52 : decode cX8_next 52 = .ok (.aload_n 0, 1) := by decide +kernel
theorem dX8_next_53 : decode cX8_next 53 = .ok (.getfield 12, 3) := by decide +kernel
theorem dX8_next_56 : decode cX8_next 56 = .ok (.iload_n 1, 1) := by decide +kernel
theorem dX8_next_57 : decode cX8_next 57 = .ok (.iload_n 2, 1) := by decide +kernel
theorem dX8_next_58 : decode cX8_next 58 = .ok (.invokevirtual 156, 3) := by decide +kernel
theorem dX8_next_61 : decode cX8_next 61 = .ok (.goto 4, 3) := by decide +kernel
theorem dX8_next_64 : decode cX8_next 64 = .ok (.iconst (-1), 1) := by decide +kernel
theorem dX8_next_65 : decode cX8_next 65 = .ok (.ireturn, 1) := by decide +kernel
theorem dX8_fault_0 : decode cX8_fault 0 = .ok (.aload_n 0, 1) := by decide +kernel
theorem dX8_fault_1 : decode cX8_fault 1 = .ok (.iload_n 1, 1) := by decide +kernel
theorem dX8_fault_2 : decode cX8_fault 2 = .ok (.iload_n 2, 1) := by decide +kernel
theorem dX8_fault_3 : decode cX8_fault 3 = .ok (.iload_n 3, 1) := by decide +kernel
theorem dX8_fault_4 : decode cX8_fault 4 = .ok (.iload 4, 2) := by decide +kernel
theorem dX8_fault_6 : decode cX8_fault 6 = .ok (.invokevirtual 159, 3) := by decide +kernel
theorem dX8_fault_9 : decode cX8_fault 9 = .ok (.ifCond .eq 23, 3) := by decide +kernel
theorem dX8_fault_12 : decode cX8_fault 12 = .ok (.aload_n 0, 1) := by decide +kernel
theorem dX8_fault_13 : decode cX8_fault 13 = .ok (.aload_n 0, 1) := by decide +kernel
theorem dX8_fault_14 : decode cX8_fault 14 = .ok (.getfield 38, 3) := by decide +kernel
theorem dX8_fault_17 : decode cX8_fault 17 = .ok (.iload_n 1, 1) := by decide +kernel
theorem dX8_fault_18 : decode cX8_fault 18 = .ok (.iload_n 2, 1) := by decide +kernel
theorem dX8_fault_19 : decode cX8_fault 19 = .ok (.iload_n 3, 1) := by decide +kernel
theorem dX8_fault_20 : decode cX8_fault 20 = .ok (.iload 4, 2) := by decide +kernel
theorem dX8_fault_22 : decode cX8_fault 22 = .ok (.iconst 0, 1) := by decide +kernel
theorem dX8_fault_23 : decode cX8_fault 23 = .ok (.invokevirtual 163, 3) := by decide +kernel
theorem dX8_fault_26 : decode cX8_fault 26 = .ok (.invokevirtual 82, 3) := by decide +kernel
theorem dX8_fault_29 : decode cX8_fault 29 = .ok (.goto 4, 3) := by decide +kernel
theorem dX8_fault_32 : decode cX8_fault 32 = .ok (.iconst (-1), 1) := by decide +kernel
theorem dX8_fault_33 : decode cX8_fault 33 = .ok (.ireturn, 1) := by decide +kernel
theorem dX8_cause_0 : decode cX8_cause 0 = .ok (.aload_n 0, 1) := by decide +kernel
theorem dX8_cause_1 : decode cX8_cause 1 = .ok (.getfield 38, 3) := by decide +kernel
theorem dX8_cause_4 : decode cX8_cause 4 = .ok (.iload_n 1, 1) := by decide +kernel
theorem dX8_cause_5 : decode cX8_cause 5 = .ok (.invokevirtual 167, 3) := by decide +kernel
theorem dX8_cause_8 : decode cX8_cause 8 = .ok (.ifCond .eq 28, 3) := by decide +kernel
theorem dX8_cause_11 : decode cX8_cause 11 = .ok (.iload_n 1, 1) := by decide +kernel
theorem dX8_cause_12 : decode cX8_cause 12 = .ok (.iload_n 2, 1) := by decide +kernel
theorem dX8_cause_13 : decode cX8_cause 13 = .ok (.if_icmp .eq 23, 3) := by decide +kernel
theorem dX8_cause_16 : decode cX8_cause 16 = .ok (.iload_n 2, 1) := by decide +kernel
theorem dX8_cause_17 : decode cX8_cause 17 = .ok (.iconst (-1), 1) := by decide +kernel
theorem dX8_cause_18 : decode cX8_cause 18 = .ok (.if_icmp .eq 14, 3) := by decide +kernel
theorem dX8_cause_21 : decode cX8_cause 21 = .ok (.aload_n 0, 1) := by decide +kernel
theorem dX8_cause_22 : decode cX8_cause 22 = .ok (.getfield 38, 3) := by decide +kernel
theorem dX8_cause_25 : decode cX8_cause 25 = .ok (.iload_n 2, 1) := by decide +kernel
theorem dX8_cause_26 : decode cX8_cause 26 = .ok (.invokevirtual 167, 3) := by decide +kernel
theorem dX8_cause_29 : decode cX8_cause 29 = .ok (.ifCond .eq 7, 3) := by decide +kernel
theorem dX8_cause_32 : decode cX8_cause 32 = .ok (.iconst 1, 1) := by decide +kernel
theorem dX8_cause_33 : decode cX8_cause 33 = .ok (.goto 4, 3) := by decide +kernel
theorem dX8_cause_36 : decode cX8_cause 36 = .ok (.iconst 0, 1) := by decide +kernel
theorem dX8_cause_37 : decode cX8_cause 37 = .ok (.istore_n 3, 1) := by decide +kernel
theorem dX8_cause_38 : decode cX8_cause 38 = .ok (.iload_n 3, 1) := by decide +kernel
theorem dX8_cause_39 : decode cX8_cause 39 = .ok (.ifCond .eq 22, 3) := by decide +kernel
theorem dX8_cause_42 : decode cX8_cause 42 = .ok (.aload_n 0, 1) := by decide +kernel
theorem dX8_cause_43 : decode cX8_cause 43 = .ok (.aload_n 0, 1) := by decide +kernel
theorem dX8_cause_44 : decode cX8_cause 44 = .ok (.getfield 42, 3) := by decide +kernel
theorem dX8_cause_47 : decode cX8_cause 47 = .ok (.iconst 0, 1) := by decide +kernel
theorem dX8_cause_48 : decode cX8_cause 48 = .ok (.iload_n 1, 1) := by decide +kernel
theorem dX8_cause_49 : decode cX8_cause 49 = .ok (.iload_n 2, 1) := by decide +kernel
theorem dX8_cause_50 : decode cX8_cause 50 = .ok (.iconst 0, 1) := by decide +kernel
theorem dX8_cause_51 : decode cX8_cause 51 = .ok (.iconst 0, 1) := by decide +kernel
theorem dX8_cause_52 : decode cX8_cause 52 = .ok (.invokevirtual 163, 3) := by decide +kernel
theorem dX8_cause_55 : decode cX8_cause 55 = .ok (.invokevirtual 82, 3) := by decide +kernel
theorem dX8_cause_58 : decode cX8_cause 58 = .ok (.goto 4, 3) := by decide +kernel
theorem dX8_cause_61 : decode cX8_cause 61 = .ok (.iconst (-1), 1) := by decide +kernel
theorem dX8_cause_62 : decode cX8_cause 62 = .ok (.ireturn, 1) := by decide +kernel
theorem dX8_look_0 : decode cX8_look 0 = .ok (.iload 5, 2) := by decide +kernel
theorem dX8_look_2 : decode cX8_look 2 = .ok (.iconst 1, 1) := by decide +kernel
theorem dX8_look_3 : decode cX8_look 3 = .ok (.if_icmp .lt 26, 3) := by decide +kernel
theorem dX8_look_6 : decode cX8_look 6 = .ok (.iload 5, 2) := by decide +kernel
theorem dX8_look_8 : decode cX8_look 8 = .ok (.bipush 100, 2) := by decide +kernel
theorem dX8_look_10 : decode cX8_look 10 = .ok (.if_icmp .gt 19, 3) := by decide +kernel
theorem dX8_look_13 : decode cX8_look 13 = .ok (.aload_n 0, 1) := by decide +kernel
theorem dX8_look_14 : decode cX8_look 14 = .ok (.iload_n 1, 1) := by decide +kernel
theorem dX8_look_15 : decode cX8_look 15 = .ok (.iload_n 2, 1) := by decide +kernel
theorem dX8_look_16 : decode cX8_look 16 = .ok (.iload_n 3, 1) := by decide +kernel
theorem dX8_look_17 : decode cX8_look 17 = .ok (.iload 4, 2) := by decide +kernel
theorem dX8_look_19 : decode cX8_look 19 = .ok (.invokevirtual 170, 3) := by decide +kernel
theorem dX8_look_22 : decode cX8_look 22 = .ok (.ifCond .eq 7, 3) := by decide +kernel
theorem dX8_look_25 : decode cX8_look 25 = .ok (.iconst 1, 1) := by decide +kernel
theorem dX8_look_26 : decode cX8_look 26 = .ok (.goto 4, 3) := by decide +kernel
theorem dX8_look_29 : decode cX8_look 29 = .ok (.iconst 0, 1) := by decide +kernel
theorem dX8_look_30 : decode cX8_look 30 = .ok (.istore 6, 2) := by decide +kernel
theorem dX8_look_32 : decode cX8_look 32 = .ok (.iload 6, 2) := by decide +kernel
theorem dX8_look_34 : decode cX8_look 34 = .ok (.ifCond .eq 24, 3) := by decide +kernel
theorem dX8_look_37 : decode cX8_look 37 = .ok (.aload_n 0, 1) := by decide +kernel
theorem dX8_look_38 : decode cX8_look 38 = .ok (.aload_n 0, 1) := by decide +kernel
theorem dX8_look_39 : decode cX8_look 39 = .ok (.getfield 45, 3) := by decide +kernel
theorem dX8_look_42 : decode cX8_look 42 = .ok (.iload_n 1, 1) := by decide +kernel
theorem dX8_look_43 : decode cX8_look 43 = .ok (.iload_n 2, 1) := by decide +kernel
theorem dX8_look_44 : decode cX8_look 44 = .ok (.iload_n 3, 1) := by decide +kernel
theorem dX8_look_45 : decode cX8_look 45 = .ok (.iload 4, 2) := by decide +kernel
theorem dX8_look_47 : decode cX8_look 47 = .ok (.iload 5, 2) := by decide +kernel
theorem dX8_look_49 : decode cX8_look 49 = .ok (.invokevirtual 163, 3) := by decide +kernel
theorem dX8_look_52 : decode cX8_look 52 = .ok (.invokevirtual 82, 3) := by decide +kernel
theorem dX8_look_55 : decode cX8_look 55 = .ok (.goto 4, 3) := by decide +kernel
theorem dX8_look_58 : decode cX8_look 58 = .ok (.iconst (-1), 1) := by decide +kernel
theorem dX8_look_59 : decode cX8_look 59 = .ok (.ireturn, 1) := by decide +kernel
theorem dX8_answer_0 : decode cX8_answer 0 = .ok (.aload_n 0, 1) := by decide +kernel
theorem dX8_answer_1 : decode cX8_answer 1 = .ok (.getfield 45, 3) := by decide +kernel
theorem dX8_answer_4 : decode cX8_answer 4 = .ok (.iload_n 1, 1) := by decide +kernel
theorem dX8_answer_5 : decode cX8_answer 5 = .ok (.invokevirtual 167, 3) := by decide +kernel
theorem dX8_answer_8 : decode cX8_answer 8 = .ok (.ifCond .eq 11, 3) := by decide +kernel
theorem dX8_answer_11 : decode cX8_answer 11 = .ok (.aload_n 0, 1) := by decide +kernel
theorem dX8_answer_12 : decode cX8_answer 12 = .ok (.iload_n 2, 1) := by decide +kernel
theorem dX8_answer_13 : decode cX8_answer 13 = .ok (.invokevirtual 173, 3) := by decide +kernel
theorem dX8_answer_16 : decode cX8_answer 16 = .ok (.ifCond .ne 13, 3) := by decide +kernel
theorem dX8_answer_19 : decode cX8_answer 19 = .ok (.new 176, 3) := by decide +kernel
theorem dX8_answer_22 : decode cX8_answer 22 = .ok (.dup, 1) := by decide +kernel
theorem dX8_answer_23 : decode cX8_answer 23 = .ok (.ldc 178, 2) := by decide +kernel
theorem dX8_answer_25 : decode cX8_answer 25 = .ok (.invokespecial 180, 3) := by decide +kernel
theorem dX8_answer_28 : decode cX8_answer 28 = .ok (.athrow, 1) := by decide +kernel
theorem dX8_answer_29 : decode cX8_answer 29 = .ok (.aload_n 0, 1) := by decide +kernel
theorem dX8_answer_30 : decode cX8_answer 30 = .ok (.iload_n 2, 1) := by decide +kernel
theorem dX8_answer_31 : decode cX8_answer 31 = .ok (.iconst 0, 1) := by decide +kernel
theorem dX8_answer_32 : decode cX8_answer 32 = .ok (.invokevirtual 183, 3) := by decide +kernel
theorem dX8_answer_35 : decode cX8_answer 35 = .ok (.aload_n 0, 1) := by decide +kernel
theorem dX8_answer_36 : decode cX8_answer 36 = .ok (.getfield 53, 3) := by decide +kernel
theorem dX8_answer_39 : decode cX8_answer 39 = .ok (.iload_n 1, 1) := by decide +kernel
theorem dX8_answer_40 : decode cX8_answer 40 = .ok (.aload_n 0, 1) := by decide +kernel
theorem dX8_answer_41 : decode cX8_answer 41 = .ok (.getfield 23, 3) := by decide +kernel
theorem dX8_answer_44 : decode cX8_answer 44 = .ok (.invokevirtual 186, 3) := by decide +kernel
theorem dX8_answer_47 : decode cX8_answer 47 = .ok (.ireturn, 1) := by decide +kernel
theorem dX8_goes_0 : decode cX8_goes 0 = .ok (.aload_n 0, 1) := by decide +kernel
theorem dX8_goes_1 : decode cX8_goes 1 = .ok (.iload_n 1, 1) := by decide +kernel
theorem dX8_goes_2 : decode cX8_goes 2 = .ok (.invokevirtual 173, 3) := by decide +kernel
theorem dX8_goes_5 : decode cX8_goes 5 = .ok (.ifCond .eq 20, 3) := by decide +kernel
theorem dX8_goes_8 : decode cX8_goes 8 = .ok (.iload_n 2, 1) := by decide +kernel
theorem dX8_goes_9 : decode cX8_goes 9 = .ok (.invokestatic 109, 3) := by decide +kernel
theorem dX8_goes_12 : decode cX8_goes 12 = .ok (.ifCond .eq 13, 3) := by decide +kernel
theorem dX8_goes_15 : decode cX8_goes 15 = .ok (.aload_n 0, 1) := by decide +kernel
theorem dX8_goes_16 : decode cX8_goes 16 = .ok (.iload_n 3, 1) := by decide +kernel
theorem dX8_goes_17 : decode cX8_goes 17 = .ok (.iload 4, 2) := by decide +kernel
theorem dX8_goes_19 : decode cX8_goes 19 = .ok (.invokevirtual 190, 3) := by decide +kernel
theorem dX8_goes_22 : decode cX8_goes 22 = .ok (.ifCond .ne 5, 3) := by decide +kernel
theorem dX8_goes_25 : decode cX8_goes 25 = .ok (.iconst (-1), 1) := by decide +kernel
theorem dX8_goes_26 : decode cX8_goes 26 = .ok (.ireturn, 1) := by decide +kernel
theorem dX8_goes_27 : decode cX8_goes 27 = .ok (.aload_n 0, 1) := by decide +kernel
theorem dX8_goes_28 : decode cX8_goes 28 = .ok (.iload_n 1, 1) := by decide +kernel
theorem dX8_goes_29 : decode cX8_goes 29 = .ok (.iconst 0, 1) := by decide +kernel
theorem dX8_goes_30 : decode cX8_goes 30 = .ok (.invokevirtual 183, 3) := by decide +kernel
theorem dX8_goes_33 : decode cX8_goes 33 = .ok (.aload_n 0, 1) := by decide +kernel
theorem dX8_goes_34 : decode cX8_goes 34 = .ok (.getfield 31, 3) := by decide +kernel
theorem dX8_goes_37 : decode cX8_goes 37 = .ok (.aload_n 0, 1) := by decide +kernel
theorem dX8_goes_38 : decode cX8_goes 38 = .ok (.getfield 23, 3) := by decide +kernel
theorem dX8_goes_41 : decode cX8_goes 41 = .ok (.iload_n 2, 1) := by decide +kernel
theorem dX8_goes_42 : decode cX8_goes 42 = .ok (.iload_n 3, 1) := by decide +kernel
theorem dX8_goes_43 : decode cX8_goes 43 = .ok (.iload 4, 2) := by decide +kernel
theorem dX8_goes_45 : decode cX8_goes 45 = .ok (.invokevirtual 194, 3) := by decide +kernel
theorem dX8_goes_48 : decode cX8_goes 48 = .ok (.pop, 1) := by decide +kernel
theorem dX8_goes_49 : decode cX8_goes 49 = .ok (.aload_n 0, 1) := by decide +kernel
theorem dX8_goes_50 : decode cX8_goes 50 = .ok (.getfield 74, 3) := by decide +kernel
theorem dX8_goes_53 : decode cX8_goes 53 = .ok (.invokevirtual 140, 3) := by decide +kernel
theorem dX8_goes_56 : decode cX8_goes 56 = .ok (.iconst 0, 1) := by decide +kernel
theorem dX8_goes_57 : decode cX8_goes 57 = .ok (.istore 5, 2) := by decide +kernel
theorem dX8_goes_59 : decode cX8_goes 59 = .ok (.iload 5, 2) := by decide +kernel
theorem dX8_goes_61 : decode cX8_goes 61 = .ok (.aload_n 0, 1) := by decide +kernel
theorem dX8_goes_62 : decode cX8_goes 62 = .ok (.getfield 31, 3) := by decide +kernel
theorem dX8_goes_65 : decode cX8_goes 65 = .ok (.invokevirtual 198, 3) := by decide +kernel
theorem dX8_goes_68 : decode cX8_goes 68 = .ok (.if_icmp .ge 25, 3) := by decide +kernel
theorem dX8_goes_71 : decode cX8_goes 71 = .ok (.aload_n 0, 1) := by decide +kernel
theorem dX8_goes_72 : decode cX8_goes 72 = .ok (.getfield 74, 3) := by decide +kernel
theorem dX8_goes_75 : decode cX8_goes 75 = .ok (.aload_n 0, 1) := by decide +kernel
theorem dX8_goes_76 : decode cX8_goes 76 = .ok (.getfield 31, 3) := by decide +kernel
theorem dX8_goes_79 : decode cX8_goes 79 = .ok (.iload 5, 2) := by decide +kernel
theorem dX8_goes_81 : decode cX8_goes 81 = .ok (.invokevirtual 201, 3) := by decide +kernel
theorem dX8_goes_84 : decode cX8_goes 84 = .ok (.invokevirtual 204, 3) := by decide +kernel
theorem dX8_goes_87 : decode cX8_goes 87 = .ok (.iinc 5 1, 3) := by decide +kernel
theorem dX8_goes_90 : decode cX8_goes 90 = .ok (.goto (-31), 3) := by decide +kernel
theorem dX8_goes_93 : decode cX8_goes 93 = .ok (.aload_n 0, 1) := by decide +kernel
theorem dX8_goes_94 : decode cX8_goes 94 = .ok (.getfield 74, 3) := by decide +kernel
theorem dX8_goes_97 : decode cX8_goes 97 = .ok (.invokevirtual 147, 3) := by decide +kernel
theorem dX8_goes_100 : decode cX8_goes 100 = .ok (.ireturn, 1) := by decide +kernel
theorem dX8_unlike_0 : decode cX8_unlike 0 = .ok (.aload_n 0, 1) := by decide +kernel
theorem dX8_unlike_1 : decode cX8_unlike 1 = .ok (.getfield 42, 3) := by decide +kernel
theorem dX8_unlike_4 : decode cX8_unlike 4 = .ok (.iload_n 1, 1) := by decide +kernel
theorem dX8_unlike_5 : decode cX8_unlike 5 = .ok (.invokevirtual 167, 3) := by decide +kernel
theorem dX8_unlike_8 : decode cX8_unlike 8 = .ok (.ifCond .eq 14, 3) := by decide +kernel
theorem dX8_unlike_11 : decode cX8_unlike 11 = .ok (.aload_n 0, 1) := by decide +kernel
theorem dX8_unlike_12 : decode cX8_unlike 12 = .ok (.getfield 42, 3) := by decide +kernel
theorem dX8_unlike_15 : decode cX8_unlike 15 = .ok (.iload_n 2, 1) := by decide +kernel
theorem dX8_unlike_16 : decode cX8_unlike 16 = .ok (.invokevirtual 167, 3) := by decide +kernel
theorem dX8_unlike_19 : decode cX8_unlike 19 = .ok (.ifCond .ne 5, 3) := by decide +kernel
theorem dX8_unlike_22 : decode cX8_unlike 22 = .ok (.iconst (-1), 1) := by decide +kernel
theorem dX8_unlike_23 : decode cX8_unlike 23 = .ok (.ireturn, 1) := by decide +kernel
theorem dX8_unlike_24 : decode cX8_unlike 24 = .ok (.aload_n 0, 1) := by decide +kernel
theorem dX8_unlike_25 : decode cX8_unlike 25 = .ok (.invokevirtual 206, 3) := by decide +kernel
theorem dX8_unlike_28 : decode cX8_unlike 28 = .ok (.aload_n 0, 1) := by decide +kernel
theorem dX8_unlike_29 : decode cX8_unlike 29 = .ok (.getfield 60, 3) := by decide +kernel
theorem dX8_unlike_32 : decode cX8_unlike 32 = .ok (.iload_n 1, 1) := by decide +kernel
theorem dX8_unlike_33 : decode cX8_unlike 33 = .ok (.iload_n 2, 1) := by decide +kernel
theorem dX8_unlike_34 : decode cX8_unlike 34 = .ok (.invokevirtual 209, 3) := by decide +kernel
theorem dX8_unlike_37 : decode cX8_unlike 37 = .ok (.ireturn, 1) := by decide +kernel
theorem dX8_fair_0 : decode cX8_fair 0 = .ok (.aload_n 0, 1) := by decide +kernel
theorem dX8_fair_1 : decode cX8_fair 1 = .ok (.invokevirtual 206, 3) := by decide +kernel
theorem dX8_fair_4 : decode cX8_fair 4 = .ok (.iconst 0, 1) := by decide +kernel
theorem dX8_fair_5 : decode cX8_fair 5 = .ok (.istore_n 1, 1) := by decide +kernel
theorem dX8_fair_6 : decode cX8_fair 6 = .ok (.iload_n 1, 1) := by decide +kernel
theorem dX8_fair_7 : decode cX8_fair 7 = .ok (.aload_n 0, 1) := by decide +kernel
theorem dX8_fair_8 : decode cX8_fair 8 = .ok (.getfield 42, 3) := by decide +kernel
theorem dX8_fair_11 : decode cX8_fair 11 = .ok (.invokevirtual 144, 3) := by decide +kernel
theorem dX8_fair_14 : decode cX8_fair 14 = .ok (.if_icmp .ge 67, 3) := by decide +kernel
theorem dX8_fair_17 : decode cX8_fair 17 = .ok (.iload_n 1, 1) := by decide +kernel
theorem dX8_fair_18 : decode cX8_fair 18 = .ok (.iconst 1, 1) := by decide +kernel
theorem dX8_fair_19 : decode cX8_fair 19 = .ok (.iadd, 1) := by decide +kernel
theorem dX8_fair_20 : decode cX8_fair 20 = .ok (.istore_n 2, 1) := by decide +kernel
theorem dX8_fair_21 : decode cX8_fair 21 = .ok (.iload_n 2, 1) := by decide +kernel
theorem dX8_fair_22 : decode cX8_fair 22 = .ok (.aload_n 0, 1) := by decide +kernel
theorem dX8_fair_23 : decode cX8_fair 23 = .ok (.getfield 42, 3) := by decide +kernel
theorem dX8_fair_26 : decode cX8_fair 26 = .ok (.invokevirtual 144, 3) := by decide +kernel
theorem dX8_fair_29 : decode cX8_fair 29 = .ok (.if_icmp .ge 46, 3) := by decide +kernel
theorem dX8_fair_32 : decode cX8_fair 32 = .ok (.aload_n 0, 1) := by decide +kernel
theorem dX8_fair_33 : decode cX8_fair 33 = .ok (.getfield 60, 3) := by decide +kernel
theorem dX8_fair_36 : decode cX8_fair 36 = .ok (.iload_n 1, 1) := by decide +kernel
theorem dX8_fair_37 : decode cX8_fair 37 = .ok (.iload_n 2, 1) := by decide +kernel
theorem dX8_fair_38 : decode cX8_fair 38 = .ok (.invokevirtual 209, 3) := by decide +kernel
theorem dX8_fair_41 : decode cX8_fair 41 = .ok (.ifCond .ne 28, 3) := by decide +kernel
theorem dX8_fair_44 : decode cX8_fair 44 = .ok (.aload_n 0, 1) := by decide +kernel
theorem dX8_fair_45 : decode cX8_fair 45 = .ok (.getfield 74, 3) := by decide +kernel
theorem dX8_fair_48 : decode cX8_fair 48 = .ok (.invokevirtual 140, 3) := by decide +kernel
theorem dX8_fair_51 : decode cX8_fair 51 = .ok (.aload_n 0, 1) := by decide +kernel
theorem dX8_fair_52 : decode cX8_fair 52 = .ok (.getfield 74, 3) := by decide +kernel
theorem dX8_fair_55 : decode cX8_fair 55 = .ok (.iload_n 1, 1) := by decide +kernel
theorem dX8_fair_56 : decode cX8_fair 56 = .ok (.invokevirtual 204, 3) := by decide +kernel
theorem dX8_fair_59 : decode cX8_fair 59 = .ok (.aload_n 0, 1) := by decide +kernel
theorem dX8_fair_60 : decode cX8_fair 60 = .ok (.getfield 74, 3) := by decide +kernel
theorem dX8_fair_63 : decode cX8_fair 63 = .ok (.iload_n 2, 1) := by decide +kernel
theorem dX8_fair_64 : decode cX8_fair 64 = .ok (.invokevirtual 204, 3) := by decide +kernel
theorem dX8_fair_67 : decode cX8_fair 67 = .ok (.iconst 1, 1) := by decide +kernel
theorem dX8_fair_68 : decode cX8_fair 68 = .ok (.ireturn, 1) := by decide +kernel
theorem dX8_fair_69 : decode cX8_fair 69 = .ok (.iinc 2 1, 3) := by decide +kernel
theorem dX8_fair_72 : decode cX8_fair 72 = .ok (.goto (-51), 3) := by decide +kernel
theorem dX8_fair_75 : decode cX8_fair 75 = .ok (.iinc 1 1, 3) := by decide +kernel
theorem dX8_fair_78 : decode cX8_fair 78 = .ok (.goto (-72), 3) := by decide +kernel
theorem dX8_fair_81 : decode cX8_fair 81 = .ok (.iconst 0, 1) := by decide +kernel
theorem dX8_fair_82 : decode cX8_fair 82 = .ok (.ireturn, 1) := by decide +kernel
theorem dX8_groups_0 : decode cX8_groups 0 = .ok (.aload_n 0, 1) := by decide +kernel
theorem dX8_groups_1 : decode cX8_groups 1 = .ok (.getfield 45, 3) := by decide +kernel
theorem dX8_groups_4 : decode cX8_groups 4 = .ok (.iload_n 1, 1) := by decide +kernel
theorem dX8_groups_5 : decode cX8_groups 5 = .ok (.invokevirtual 167, 3) := by decide +kernel
theorem dX8_groups_8 : decode cX8_groups 8 = .ok (.ifCond .ne 5, 3) := by decide +kernel
theorem dX8_groups_11 : decode cX8_groups 11 = .ok (.iconst (-1), 1) := by decide +kernel
theorem dX8_groups_12 : decode cX8_groups 12 = .ok (.ireturn, 1) := by decide +kernel
theorem dX8_groups_13 : decode cX8_groups 13 = .ok (.aload_n 0, 1) := by decide +kernel
theorem dX8_groups_14 : decode cX8_groups 14 = .ok (.invokevirtual 206, 3) := by decide +kernel
theorem dX8_groups_17 : decode cX8_groups 17 = .ok (.aload_n 0, 1) := by decide +kernel
theorem dX8_groups_18 : decode cX8_groups 18 = .ok (.getfield 60, 3) := by decide +kernel
theorem dX8_groups_21 : decode cX8_groups 21 = .ok (.iload_n 1, 1) := by decide +kernel
theorem dX8_groups_22 : decode cX8_groups 22 = .ok (.aload_n 0, 1) := by decide +kernel
theorem dX8_groups_23 : decode cX8_groups 23 = .ok (.getfield 42, 3) := by decide +kernel
theorem dX8_groups_26 : decode cX8_groups 26 = .ok (.invokevirtual 212, 3) := by decide +kernel
theorem dX8_groups_29 : decode cX8_groups 29 = .ok (.invokevirtual 215, 3) := by decide +kernel
theorem dX8_groups_32 : decode cX8_groups 32 = .ok (.ireturn, 1) := by decide +kernel
theorem dX8_worst_0 : decode cX8_worst 0 = .ok (.aload_n 0, 1) := by decide +kernel
theorem dX8_worst_1 : decode cX8_worst 1 = .ok (.iload_n 1, 1) := by decide +kernel
theorem dX8_worst_2 : decode cX8_worst 2 = .ok (.invokevirtual 218, 3) := by decide +kernel
theorem dX8_worst_5 : decode cX8_worst 5 = .ok (.ifCond .ne 5, 3) := by decide +kernel
theorem dX8_worst_8 : decode cX8_worst 8 = .ok (.iconst (-1), 1) := by decide +kernel
theorem dX8_worst_9 : decode cX8_worst 9 = .ok (.ireturn, 1) := by decide +kernel
theorem dX8_worst_10 : decode cX8_worst 10 = .ok (.aload_n 0, 1) := by decide +kernel
theorem dX8_worst_11 : decode cX8_worst 11 = .ok (.invokevirtual 206, 3) := by decide +kernel
theorem dX8_worst_14 : decode cX8_worst 14 = .ok (.aload_n 0, 1) := by decide +kernel
theorem dX8_worst_15 : decode cX8_worst 15 = .ok (.getfield 60, 3) := by decide +kernel
theorem dX8_worst_18 : decode cX8_worst 18 = .ok (.iload_n 1, 1) := by decide +kernel
theorem dX8_worst_19 : decode cX8_worst 19 = .ok (.invokevirtual 221, 3) := by decide +kernel
theorem dX8_worst_22 : decode cX8_worst 22 = .ok (.ireturn, 1) := by decide +kernel
theorem dX8_tells_0 : decode cX8_tells 0 = .ok (.aload_n 0, 1) := by decide +kernel
theorem dX8_tells_1 : decode cX8_tells 1 = .ok (.iload_n 1, 1) := by decide +kernel
theorem dX8_tells_2 : decode cX8_tells 2 = .ok (.invokevirtual 218, 3) := by decide +kernel
theorem dX8_tells_5 : decode cX8_tells 5 = .ok (.ifCond .ne 5, 3) := by decide +kernel
theorem dX8_tells_8 : decode cX8_tells 8 = .ok (.iconst (-1), 1) := by decide +kernel
theorem dX8_tells_9 : decode cX8_tells 9 = .ok (.ireturn, 1) := by decide +kernel
theorem dX8_tells_10 : decode cX8_tells 10 = .ok (.aload_n 0, 1) := by decide +kernel
theorem dX8_tells_11 : decode cX8_tells 11 = .ok (.invokevirtual 206, 3) := by decide +kernel
theorem dX8_tells_14 : decode cX8_tells 14 = .ok (.aload_n 0, 1) := by decide +kernel
theorem dX8_tells_15 : decode cX8_tells 15 = .ok (.getfield 60, 3) := by decide +kernel
theorem dX8_tells_18 : decode cX8_tells 18 = .ok (.iload_n 1, 1) := by decide +kernel
theorem dX8_tells_19 : decode cX8_tells 19 = .ok (.invokevirtual 224, 3) := by decide +kernel
theorem dX8_tells_22 : decode cX8_tells 22 = .ok (.ireturn, 1) := by decide +kernel
theorem dX8_first_0 : decode cX8_first 0 = .ok (.aload_n 0, 1) := by decide +kernel
theorem dX8_first_1 : decode cX8_first 1 = .ok (.iload_n 1, 1) := by decide +kernel
theorem dX8_first_2 : decode cX8_first 2 = .ok (.invokevirtual 218, 3) := by decide +kernel
theorem dX8_first_5 : decode cX8_first 5 = .ok (.ifCond .ne 5, 3) := by decide +kernel
theorem dX8_first_8 : decode cX8_first 8 = .ok (.iconst (-1), 1) := by decide +kernel
theorem dX8_first_9 : decode cX8_first 9 = .ok (.ireturn, 1) := by decide +kernel
theorem dX8_first_10 : decode cX8_first 10 = .ok (.aload_n 0, 1) := by decide +kernel
theorem dX8_first_11 : decode cX8_first 11 = .ok (.invokevirtual 206, 3) := by decide +kernel
theorem dX8_first_14 : decode cX8_first 14 = .ok (.aload_n 0, 1) := by decide +kernel
theorem dX8_first_15 : decode cX8_first 15 = .ok (.getfield 60, 3) := by decide +kernel
theorem dX8_first_18 : decode cX8_first 18 = .ok (.iload_n 1, 1) := by decide +kernel
theorem dX8_first_19 : decode cX8_first 19 = .ok (.invokevirtual 227, 3) := by decide +kernel
theorem dX8_first_22 : decode cX8_first 22 = .ok (.ireturn, 1) := by decide +kernel
theorem dX8_begin_0 : decode cX8_begin 0 = .ok (.aload_n 0, 1) := by decide +kernel
theorem dX8_begin_1 : decode cX8_begin 1 = .ok (.getfield 42, 3) := by decide +kernel
theorem dX8_begin_4 : decode cX8_begin 4 = .ok (.iload_n 1, 1) := by decide +kernel
theorem dX8_begin_5 : decode cX8_begin 5 = .ok (.invokevirtual 167, 3) := by decide +kernel
theorem dX8_begin_8 : decode cX8_begin 8 = .ok (.ifCond .ne 5, 3) := by decide +kernel
theorem dX8_begin_11 : decode cX8_begin 11 = .ok (.iconst 0, 1) := by decide +kernel
theorem dX8_begin_12 : decode cX8_begin 12 = .ok (.ireturn, 1) := by decide +kernel
theorem dX8_begin_13 : decode cX8_begin 13 = .ok (.aload_n 0, 1) := by decide +kernel
theorem dX8_begin_14 : decode cX8_begin 14 = .ok (.getfield 67, 3) := by decide +kernel
theorem dX8_begin_17 : decode cX8_begin 17 = .ok (.iload_n 1, 1) := by decide +kernel
theorem dX8_begin_18 : decode cX8_begin 18 = .ok (.aload_n 0, 1) := by decide +kernel
theorem dX8_begin_19 : decode cX8_begin 19 = .ok (.getfield 42, 3) := by decide +kernel
theorem dX8_begin_22 : decode cX8_begin 22 = .ok (.invokevirtual 212, 3) := by decide +kernel
theorem dX8_begin_25 : decode cX8_begin 25 = .ok (.invokevirtual 230, 3) := by decide +kernel
theorem dX8_begin_28 : decode cX8_begin 28 = .ok (.iconst 1, 1) := by decide +kernel
theorem dX8_begin_29 : decode cX8_begin 29 = .ok (.ireturn, 1) := by decide +kernel
theorem dX8_use_0 : decode cX8_use 0 = .ok (.aload_n 0, 1) := by decide +kernel
theorem dX8_use_1 : decode cX8_use 1 = .ok (.getfield 67, 3) := by decide +kernel
theorem dX8_use_4 : decode cX8_use 4 = .ok (.invokevirtual 148, 3) := by decide +kernel
theorem dX8_use_7 : decode cX8_use 7 = .ok (.ifCond .eq 14, 3) := by decide +kernel
theorem dX8_use_10 : decode cX8_use 10 = .ok (.aload_n 0, 1) := by decide +kernel
theorem dX8_use_11 : decode cX8_use 11 = .ok (.getfield 45, 3) := by decide +kernel
theorem dX8_use_14 : decode cX8_use 14 = .ok (.iload_n 1, 1) := by decide +kernel
theorem dX8_use_15 : decode cX8_use 15 = .ok (.invokevirtual 167, 3) := by decide +kernel
theorem dX8_use_18 : decode cX8_use 18 = .ok (.ifCond .ne 6, 3) := by decide +kernel
theorem dX8_use_21 : decode cX8_use 21 = .ok (.bipush (-2), 2) := by decide +kernel
theorem dX8_use_23 : decode cX8_use 23 = .ok (.ireturn, 1) := by decide +kernel
theorem dX8_use_24 : decode cX8_use 24 = .ok (.aload_n 0, 1) := by decide +kernel
theorem dX8_use_25 : decode cX8_use 25 = .ok (.invokevirtual 206, 3) := by decide +kernel
theorem dX8_use_28 : decode cX8_use 28 = .ok (.aload_n 0, 1) := by decide +kernel
theorem dX8_use_29 : decode cX8_use 29 = .ok (.getfield 67, 3) := by decide +kernel
theorem dX8_use_32 : decode cX8_use 32 = .ok (.aload_n 0, 1) := by decide +kernel
theorem dX8_use_33 : decode cX8_use 33 = .ok (.getfield 45, 3) := by decide +kernel
theorem dX8_use_36 : decode cX8_use 36 = .ok (.iload_n 1, 1) := by decide +kernel
theorem dX8_use_37 : decode cX8_use 37 = .ok (.iconst 4, 1) := by decide +kernel
theorem dX8_use_38 : decode cX8_use 38 = .ok (.invokevirtual 233, 3) := by decide +kernel
theorem dX8_use_41 : decode cX8_use 41 = .ok (.aload_n 0, 1) := by decide +kernel
theorem dX8_use_42 : decode cX8_use 42 = .ok (.getfield 60, 3) := by decide +kernel
theorem dX8_use_45 : decode cX8_use 45 = .ok (.iload_n 1, 1) := by decide +kernel
theorem dX8_use_46 : decode cX8_use 46 = .ok (.aload_n 0, 1) := by decide +kernel
theorem dX8_use_47 : decode cX8_use 47 = .ok (.getfield 67, 3) := by decide +kernel
theorem dX8_use_50 : decode cX8_use 50 = .ok (.invokevirtual 236, 3) := by decide +kernel
theorem dX8_use_53 : decode cX8_use 53 = .ok (.invokevirtual 239, 3) := by decide +kernel
theorem dX8_use_56 : decode cX8_use 56 = .ok (.invokevirtual 242, 3) := by decide +kernel
theorem dX8_use_59 : decode cX8_use 59 = .ok (.aload_n 0, 1) := by decide +kernel
theorem dX8_use_60 : decode cX8_use 60 = .ok (.aload_n 0, 1) := by decide +kernel
theorem dX8_use_61 : decode cX8_use 61 = .ok (.getfield 67, 3) := by decide +kernel
theorem dX8_use_64 : decode cX8_use 64 = .ok (.invokevirtual 236, 3) := by decide +kernel
theorem dX8_use_67 : decode cX8_use 67 = .ok (.aload_n 0, 1) := by decide +kernel
theorem dX8_use_68 : decode cX8_use 68 = .ok (.getfield 67, 3) := by decide +kernel
theorem dX8_use_71 : decode cX8_use 71 = .ok (.invokevirtual 245, 3) := by decide +kernel
theorem dX8_use_74 : decode cX8_use 74 = .ok (.invokevirtual 183, 3) := by decide +kernel
theorem dX8_use_77 : decode cX8_use 77 = .ok (.aload_n 0, 1) := by decide +kernel
theorem dX8_use_78 : decode cX8_use 78 = .ok (.getfield 53, 3) := by decide +kernel
theorem dX8_use_81 : decode cX8_use 81 = .ok (.iload_n 1, 1) := by decide +kernel
theorem dX8_use_82 : decode cX8_use 82 = .ok (.aload_n 0, 1) := by decide +kernel
theorem dX8_use_83 : decode cX8_use 83 = .ok (.getfield 23, 3) := by decide +kernel
theorem dX8_use_86 : decode cX8_use 86 = .ok (.invokevirtual 186, 3) := by decide +kernel
theorem dX8_use_89 : decode cX8_use 89 = .ok (.ireturn, 1) := by decide +kernel
theorem dX8_left_0 : decode cX8_left 0 = .ok (.aload_n 0, 1) := by decide +kernel
theorem dX8_left_1 : decode cX8_left 1 = .ok (.getfield 67, 3) := by decide +kernel
theorem dX8_left_4 : decode cX8_left 4 = .ok (.invokevirtual 148, 3) := by decide +kernel
theorem dX8_left_7 : decode cX8_left 7 = .ok (.ifCond .eq 13, 3) := by decide +kernel
theorem dX8_left_10 : decode cX8_left 10 = .ok (.aload_n 0, 1) := by decide +kernel
theorem dX8_left_11 : decode cX8_left 11 = .ok (.getfield 67, 3) := by decide +kernel
theorem dX8_left_14 : decode cX8_left 14 = .ok (.invokevirtual 248, 3) := by decide +kernel
theorem dX8_left_17 : decode cX8_left 17 = .ok (.goto 5, 3) := by decide +kernel
theorem dX8_left_20 : decode cX8_left 20 = .ok (.bipush (-2), 2) := by decide +kernel
theorem dX8_left_22 : decode cX8_left 22 = .ok (.ireturn, 1) := by decide +kernel
theorem dX8_mend_0 : decode cX8_mend 0 = .ok (.aload_n 0, 1) := by decide +kernel
theorem dX8_mend_1 : decode cX8_mend 1 = .ok (.getfield 67, 3) := by decide +kernel
theorem dX8_mend_4 : decode cX8_mend 4 = .ok (.invokevirtual 148, 3) := by decide +kernel
theorem dX8_mend_7 : decode cX8_mend 7 = .ok (.ifCond .eq 14, 3) := by decide +kernel
theorem dX8_mend_10 : decode cX8_mend 10 = .ok (.aload_n 0, 1) := by decide +kernel
theorem dX8_mend_11 : decode cX8_mend 11 = .ok (.getfield 38, 3) := by decide +kernel
theorem dX8_mend_14 : decode cX8_mend 14 = .ok (.iload_n 1, 1) := by decide +kernel
theorem dX8_mend_15 : decode cX8_mend 15 = .ok (.invokevirtual 167, 3) := by decide +kernel
theorem dX8_mend_18 : decode cX8_mend 18 = .ok (.ifCond .ne 6, 3) := by decide +kernel
theorem dX8_mend_21 : decode cX8_mend 21 = .ok (.bipush (-2), 2) := by decide +kernel
theorem dX8_mend_23 : decode cX8_mend 23 = .ok (.ireturn, 1) := by decide +kernel
theorem dX8_mend_24 : decode cX8_mend 24 = .ok (.aload_n 0, 1) := by decide +kernel
theorem dX8_mend_25 : decode cX8_mend 25 = .ok (.getfield 67, 3) := by decide +kernel
theorem dX8_mend_28 : decode cX8_mend 28 = .ok (.iload_n 1, 1) := by decide +kernel
theorem dX8_mend_29 : decode cX8_mend 29 = .ok (.invokevirtual 251, 3) := by decide +kernel
theorem dX8_mend_32 : decode cX8_mend 32 = .ok (.ifCond .eq 6, 3) := by decide +kernel
theorem dX8_mend_35 : decode cX8_mend 35 = .ok (.bipush (-3), 2) := by decide +kernel
theorem dX8_mend_37 : decode cX8_mend 37 = .ok (.ireturn, 1) := by decide +kernel
theorem dX8_mend_38 : decode cX8_mend 38 = .ok (.aload_n 0, 1) := by decide +kernel
theorem dX8_mend_39 : decode cX8_mend 39 = .ok (.getfield 67, 3) := by decide +kernel
theorem dX8_mend_42 : decode cX8_mend 42 = .ok (.iload_n 1, 1) := by decide +kernel
theorem dX8_mend_43 : decode cX8_mend 43 = .ok (.invokevirtual 254, 3) := by decide +kernel
theorem dX8_mend_46 : decode cX8_mend 46 = .ok (.aload_n 0, 1) := by decide +kernel
theorem dX8_mend_47 : decode cX8_mend 47 = .ok (.aload_n 0, 1) := by decide +kernel
theorem dX8_mend_48 : decode cX8_mend 48 = .ok (.getfield 42, 3) := by decide +kernel
theorem dX8_mend_51 : decode cX8_mend 51 = .ok (.aload_n 0, 1) := by decide +kernel
theorem dX8_mend_52 : decode cX8_mend 52 = .ok (.getfield 67, 3) := by decide +kernel
theorem dX8_mend_55 : decode cX8_mend 55 = .ok (.invokevirtual 236, 3) := by decide +kernel
theorem dX8_mend_58 : decode cX8_mend 58 = .ok (.iconst 1, 1) := by decide +kernel
theorem dX8_mend_59 : decode cX8_mend 59 = .ok (.invokevirtual 233, 3) := by decide +kernel
theorem dX8_mend_62 : decode cX8_mend 62 = .ok (.invokevirtual 257, 3) := by decide +kernel
theorem dX8_mend_65 : decode cX8_mend 65 = .ok (.aload_n 0, 1) := by decide +kernel
theorem dX8_mend_66 : decode cX8_mend 66 = .ok (.aload_n 0, 1) := by decide +kernel
theorem dX8_mend_67 : decode cX8_mend 67 = .ok (.getfield 42, 3) := by decide +kernel
theorem dX8_mend_70 : decode cX8_mend 70 = .ok (.aload_n 0, 1) := by decide +kernel
theorem dX8_mend_71 : decode cX8_mend 71 = .ok (.getfield 67, 3) := by decide +kernel
theorem dX8_mend_74 : decode cX8_mend 74 = .ok (.invokevirtual 236, 3) := by decide +kernel
theorem dX8_mend_77 : decode cX8_mend 77 = .ok (.iconst 2, 1) := by decide +kernel
theorem dX8_mend_78 : decode cX8_mend 78 = .ok (.invokevirtual 233, 3) := by decide +kernel
theorem dX8_mend_81 : decode cX8_mend 81 = .ok (.invokevirtual 257, 3) := by decide +kernel
theorem dX8_mend_84 : decode cX8_mend 84 = .ok (.iadd, 1) := by decide +kernel
theorem dX8_mend_85 : decode cX8_mend 85 = .ok (.ireturn, 1) := by decide +kernel
theorem dX8_well_0 : decode cX8_well 0 = .ok (.aload_n 0, 1) := by decide +kernel
theorem dX8_well_1 : decode cX8_well 1 = .ok (.getfield 67, 3) := by decide +kernel
theorem dX8_well_4 : decode cX8_well 4 = .ok (.invokevirtual 148, 3) := by decide +kernel
theorem dX8_well_7 : decode cX8_well 7 = .ok (.ifCond .ne 6, 3) := by decide +kernel
theorem dX8_well_10 : decode cX8_well 10 = .ok (.bipush (-2), 2) := by decide +kernel
theorem dX8_well_12 : decode cX8_well 12 = .ok (.ireturn, 1) := by decide +kernel
theorem dX8_well_13 : decode cX8_well 13 = .ok (.aload_n 0, 1) := by decide +kernel
theorem dX8_well_14 : decode cX8_well 14 = .ok (.aload_n 0, 1) := by decide +kernel
theorem dX8_well_15 : decode cX8_well 15 = .ok (.getfield 67, 3) := by decide +kernel
theorem dX8_well_18 : decode cX8_well 18 = .ok (.invokevirtual 236, 3) := by decide +kernel
theorem dX8_well_21 : decode cX8_well 21 = .ok (.aload_n 0, 1) := by decide +kernel
theorem dX8_well_22 : decode cX8_well 22 = .ok (.getfield 67, 3) := by decide +kernel
theorem dX8_well_25 : decode cX8_well 25 = .ok (.invokevirtual 245, 3) := by decide +kernel
theorem dX8_well_28 : decode cX8_well 28 = .ok (.invokevirtual 183, 3) := by decide +kernel
theorem dX8_well_31 : decode cX8_well 31 = .ok (.iconst 0, 1) := by decide +kernel
theorem dX8_well_32 : decode cX8_well 32 = .ok (.istore_n 1, 1) := by decide +kernel
theorem dX8_well_33 : decode cX8_well 33 = .ok (.iload_n 1, 1) := by decide +kernel
theorem dX8_well_34 : decode cX8_well 34 = .ok (.aload_n 0, 1) := by decide +kernel
theorem dX8_well_35 : decode cX8_well 35 = .ok (.getfield 45, 3) := by decide +kernel
theorem dX8_well_38 : decode cX8_well 38 = .ok (.invokevirtual 144, 3) := by decide +kernel
theorem dX8_well_41 : decode cX8_well 41 = .ok (.if_icmp .ge 38, 3) := by decide +kernel
theorem dX8_well_44 : decode cX8_well 44 = .ok (.aload_n 0, 1) := by decide +kernel
theorem dX8_well_45 : decode cX8_well 45 = .ok (.getfield 53, 3) := by decide +kernel
theorem dX8_well_48 : decode cX8_well 48 = .ok (.iload_n 1, 1) := by decide +kernel
theorem dX8_well_49 : decode cX8_well 49 = .ok (.aload_n 0, 1) := by decide +kernel
theorem dX8_well_50 : decode cX8_well 50 = .ok (.getfield 23, 3) := by decide +kernel
theorem dX8_well_53 : decode cX8_well 53 = .ok (.invokevirtual 186, 3) := by decide +kernel
theorem dX8_well_56 : decode cX8_well 56 = .ok (.aload_n 0, 1) := by decide +kernel
theorem dX8_well_57 : decode cX8_well 57 = .ok (.getfield 53, 3) := by decide +kernel
theorem dX8_well_60 : decode cX8_well 60 = .ok (.iload_n 1, 1) := by decide +kernel
theorem dX8_well_61 : decode cX8_well 61 = .ok (.aload_n 0, 1) := by decide +kernel
theorem dX8_well_62 : decode cX8_well 62 = .ok (.getfield 19, 3) := by decide +kernel
theorem dX8_well_65 : decode cX8_well 65 = .ok (.invokevirtual 186, 3) := by decide +kernel
theorem dX8_well_68 : decode cX8_well 68 = .ok (.if_icmp .eq 5, 3) := by decide +kernel
theorem dX8_well_71 : decode cX8_well 71 = .ok (.iconst 0, 1) := by decide +kernel
theorem dX8_well_72 : decode cX8_well 72 = .ok (.ireturn, 1) := by decide +kernel
theorem dX8_well_73 : decode cX8_well 73 = .ok (.iinc 1 1, 3) := by decide +kernel
theorem dX8_well_76 : decode cX8_well 76 = .ok (.goto (-43), 3) := by decide +kernel
theorem dX8_well_79 : decode cX8_well 79 = .ok (.iconst 1, 1) := by decide +kernel
theorem dX8_well_80 : decode cX8_well 80 = .ok (.ireturn, 1) := by decide +kernel
theorem dX8_claim_0 : decode cX8_claim 0 = .ok (.aload_n 0, 1) := by decide +kernel
theorem dX8_claim_1 : decode cX8_claim 1 = .ok (.getfield 67, 3) := by decide +kernel
theorem dX8_claim_4 : decode cX8_claim 4 = .ok (.invokevirtual 148, 3) := by decide +kernel
theorem dX8_claim_7 : decode cX8_claim 7 = .ok (.ifCond .eq 14, 3) := by decide +kernel
theorem dX8_claim_10 : decode cX8_claim 10 = .ok (.aload_n 0, 1) := by decide +kernel
theorem dX8_claim_11 : decode cX8_claim 11 = .ok (.getfield 42, 3) := by decide +kernel
theorem dX8_claim_14 : decode cX8_claim 14 = .ok (.iload_n 1, 1) := by decide +kernel
theorem dX8_claim_15 : decode cX8_claim 15 = .ok (.invokevirtual 167, 3) := by decide +kernel
theorem dX8_claim_18 : decode cX8_claim 18 = .ok (.ifCond .ne 6, 3) := by decide +kernel
theorem dX8_claim_21 : decode cX8_claim 21 = .ok (.bipush (-2), 2) := by decide +kernel
theorem dX8_claim_23 : decode cX8_claim 23 = .ok (.ireturn, 1) := by decide +kernel
theorem dX8_claim_24 : decode cX8_claim 24 = .ok (.iload_n 1, 1) := by decide +kernel
theorem dX8_claim_25 : decode cX8_claim 25 = .ok (.aload_n 0, 1) := by decide +kernel
theorem dX8_claim_26 : decode cX8_claim 26 = .ok (.getfield 67, 3) := by decide +kernel
theorem dX8_claim_29 : decode cX8_claim 29 = .ok (.invokevirtual 236, 3) := by decide +kernel
theorem dX8_claim_32 : decode cX8_claim 32 = .ok (.if_icmp .ne 5, 3) := by decide +kernel
theorem dX8_claim_35 : decode cX8_claim 35 = .ok (.iconst (-1), 1) := by decide +kernel
theorem dX8_claim_36 : decode cX8_claim 36 = .ok (.ireturn, 1) := by decide +kernel
theorem dX8_claim_37 : decode cX8_claim 37 = .ok (.aload_n 0, 1) := by decide +kernel
theorem dX8_claim_38 : decode cX8_claim 38 = .ok (.getfield 67, 3) := by decide +kernel
theorem dX8_claim_41 : decode cX8_claim 41 = .ok (.invokevirtual 260, 3) := by decide +kernel
theorem dX8_claim_44 : decode cX8_claim 44 = .ok (.aload_n 0, 1) := by decide +kernel
theorem dX8_claim_45 : decode cX8_claim 45 = .ok (.invokevirtual 206, 3) := by decide +kernel
theorem dX8_claim_48 : decode cX8_claim 48 = .ok (.aload_n 0, 1) := by decide +kernel
theorem dX8_claim_49 : decode cX8_claim 49 = .ok (.getfield 60, 3) := by decide +kernel
theorem dX8_claim_52 : decode cX8_claim 52 = .ok (.iload_n 1, 1) := by decide +kernel
theorem dX8_claim_53 : decode cX8_claim 53 = .ok (.aload_n 0, 1) := by decide +kernel
theorem dX8_claim_54 : decode cX8_claim 54 = .ok (.getfield 67, 3) := by decide +kernel
theorem dX8_claim_57 : decode cX8_claim 57 = .ok (.invokevirtual 236, 3) := by decide +kernel
theorem dX8_claim_60 : decode cX8_claim 60 = .ok (.invokevirtual 209, 3) := by decide +kernel
theorem dX8_claim_63 : decode cX8_claim 63 = .ok (.istore_n 2, 1) := by decide +kernel
theorem dX8_claim_64 : decode cX8_claim 64 = .ok (.iload_n 2, 1) := by decide +kernel
theorem dX8_claim_65 : decode cX8_claim 65 = .ok (.ifCond .ne 8, 3) := by decide +kernel
theorem dX8_claim_68 : decode cX8_claim 68 = .ok (.bipush (-3), 2) := by decide +kernel
theorem dX8_claim_70 : decode cX8_claim 70 = .ok (.goto 7, 3) := by decide +kernel
theorem dX8_claim_73 : decode cX8_claim 73 = .ok (.iload_n 2, 1) := by decide +kernel
theorem dX8_claim_74 : decode cX8_claim 74 = .ok (.invokestatic 263, 3) := by decide +kernel
theorem dX8_claim_77 : decode cX8_claim 77 = .ok (.ireturn, 1) := by decide +kernel
theorem dX8_mark_0 : decode cX8_mark 0 = .ok (.aload_n 0, 1) := by decide +kernel
theorem dX8_mark_1 : decode cX8_mark 1 = .ok (.getfield 67, 3) := by decide +kernel
theorem dX8_mark_4 : decode cX8_mark 4 = .ok (.invokevirtual 148, 3) := by decide +kernel
theorem dX8_mark_7 : decode cX8_mark 7 = .ok (.ifCond .ne 6, 3) := by decide +kernel
theorem dX8_mark_10 : decode cX8_mark 10 = .ok (.bipush (-2), 2) := by decide +kernel
theorem dX8_mark_12 : decode cX8_mark 12 = .ok (.ireturn, 1) := by decide +kernel
theorem dX8_mark_13 : decode cX8_mark 13 = .ok (.iload_n 1, 1) := by decide +kernel
theorem dX8_mark_14 : decode cX8_mark 14 = .ok (.tableswitch 100 0 5 #[38, 46, 54, 62, 70, 81], 38) := by decide +kernel
theorem dX8_mark_52 : decode cX8_mark 52 = .ok (.aload_n 0, 1) := by decide +kernel
theorem dX8_mark_53 : decode cX8_mark 53 = .ok (.getfield 67, 3) := by decide +kernel
theorem dX8_mark_56 : decode cX8_mark 56 = .ok (.invokevirtual 266, 3) := by decide +kernel
theorem dX8_mark_59 : decode cX8_mark 59 = .ok (.ireturn, 1) := by decide +kernel
theorem dX8_mark_60 : decode cX8_mark 60 = .ok (.aload_n 0, 1) := by decide +kernel
theorem dX8_mark_61 : decode cX8_mark 61 = .ok (.getfield 67, 3) := by decide +kernel
theorem dX8_mark_64 : decode cX8_mark 64 = .ok (.invokevirtual 269, 3) := by decide +kernel
theorem dX8_mark_67 : decode cX8_mark 67 = .ok (.ireturn, 1) := by decide +kernel
theorem dX8_mark_68 : decode cX8_mark 68 = .ok (.aload_n 0, 1) := by decide +kernel
theorem dX8_mark_69 : decode cX8_mark 69 = .ok (.getfield 67, 3) := by decide +kernel
theorem dX8_mark_72 : decode cX8_mark 72 = .ok (.invokevirtual 272, 3) := by decide +kernel
theorem dX8_mark_75 : decode cX8_mark 75 = .ok (.ireturn, 1) := by decide +kernel
theorem dX8_mark_76 : decode cX8_mark 76 = .ok (.aload_n 0, 1) := by decide +kernel
theorem dX8_mark_77 : decode cX8_mark 77 = .ok (.getfield 67, 3) := by decide +kernel
theorem dX8_mark_80 : decode cX8_mark 80 = .ok (.invokevirtual 275, 3) := by decide +kernel
theorem dX8_mark_83 : decode cX8_mark 83 = .ok (.ireturn, 1) := by decide +kernel
theorem dX8_mark_84 : decode cX8_mark 84 = .ok (.aload_n 0, 1) := by decide +kernel
theorem dX8_mark_85 : decode cX8_mark 85 = .ok (.getfield 67, 3) := by decide +kernel
theorem dX8_mark_88 : decode cX8_mark 88 = .ok (.invokevirtual 245, 3) := by decide +kernel
theorem dX8_mark_91 : decode cX8_mark 91 = .ok (.invokestatic 278, 3) := by decide +kernel
theorem dX8_mark_94 : decode cX8_mark 94 = .ok (.ireturn, 1) := by decide +kernel
theorem dX8_mark_95 : decode cX8_mark 95 = .ok (.aload_n 0, 1) := by decide +kernel
theorem dX8_mark_96 : decode cX8_mark 96 = .ok (.invokevirtual 206, 3) := by decide +kernel
theorem dX8_mark_99 : decode cX8_mark 99 = .ok (.aload_n 0, 1) := by decide +kernel
theorem dX8_mark_100 : decode cX8_mark 100 = .ok (.getfield 60, 3) := by decide +kernel
theorem dX8_mark_103 : decode cX8_mark 103 = .ok (.aload_n 0, 1) := by decide +kernel
theorem dX8_mark_104 : decode cX8_mark 104 = .ok (.getfield 42, 3) := by decide +kernel
theorem dX8_mark_107 : decode cX8_mark 107 = .ok (.invokevirtual 212, 3) := by decide +kernel
theorem dX8_mark_110 : decode cX8_mark 110 = .ok (.invokevirtual 221, 3) := by decide +kernel
theorem dX8_mark_113 : decode cX8_mark 113 = .ok (.ireturn, 1) := by decide +kernel
theorem dX8_mark_114 : decode cX8_mark 114 = .ok (.bipush (-2), 2) := by decide +kernel
theorem dX8_mark_116 : decode cX8_mark 116 = .ok (.ireturn, 1) := by decide +kernel
theorem dX8_row_0 : decode cX8_row 0 = .ok (.iload_n 1, 1) := by decide +kernel
theorem dX8_row_1 : decode cX8_row 1 = .ok (.ifCond .lt 14, 3) := by decide +kernel
theorem dX8_row_4 : decode cX8_row 4 = .ok (.iload_n 1, 1) := by decide +kernel
theorem dX8_row_5 : decode cX8_row 5 = .ok (.aload_n 0, 1) := by decide +kernel
theorem dX8_row_6 : decode cX8_row 6 = .ok (.getfield 74, 3) := by decide +kernel
theorem dX8_row_9 : decode cX8_row 9 = .ok (.invokevirtual 147, 3) := by decide +kernel
theorem dX8_row_12 : decode cX8_row 12 = .ok (.if_icmp .lt 14, 3) := by decide +kernel
theorem dX8_row_15 : decode cX8_row 15 = .ok (.new 176, 3) := by decide +kernel
theorem dX8_row_18 : decode cX8_row 18 = .ok (.dup, 1) := by decide +kernel
theorem dX8_row_19 : decode cX8_row 19 = .ok (.ldc_w 283, 3) := by decide +kernel
theorem dX8_row_22 : decode cX8_row 22 = .ok (.invokespecial 180, 3) := by decide +kernel
theorem dX8_row_25 : decode cX8_row 25 = .ok (.athrow, 1) := by decide +kernel
theorem dX8_row_26 : decode cX8_row 26 = .ok (.aload_n 0, 1) := by decide +kernel
theorem dX8_row_27 : decode cX8_row 27 = .ok (.getfield 74, 3) := by decide +kernel
theorem dX8_row_30 : decode cX8_row 30 = .ok (.iload_n 1, 1) := by decide +kernel
theorem dX8_row_31 : decode cX8_row 31 = .ok (.invokevirtual 285, 3) := by decide +kernel
theorem dX8_row_34 : decode cX8_row 34 = .ok (.ireturn, 1) := by decide +kernel
theorem dX8_isService_0 : decode cX8_isService 0 = .ok (.iload_n 0, 1) := by decide +kernel
theorem dX8_isService_1 : decode cX8_isService 1 = .ok (.ifCond .lt 12, 3) := by decide +kernel
theorem dX8_isService_4 : decode cX8_isService 4 = .ok (.iload_n 0, 1) := by decide +kernel
theorem dX8_isService_5 : decode cX8_isService 5 = .ok (.iconst 4, 1) := by decide +kernel
theorem dX8_isService_6 : decode cX8_isService 6 = .ok (.if_icmp .ge 7, 3) := by decide +kernel
theorem dX8_isService_9 : decode cX8_isService 9 = .ok (.iconst 1, 1) := by decide +kernel
theorem dX8_isService_10 : decode cX8_isService 10 = .ok (.goto 4, 3) := by decide +kernel
theorem dX8_isService_13 : decode cX8_isService 13 = .ok (.iconst 0, 1) := by decide +kernel
theorem dX8_isService_14 : decode cX8_isService 14 = .ok (.ireturn, 1) := by decide +kernel
theorem dX8_isName_0 : decode cX8_isName 0 = .ok (.iload_n 0, 1) := by decide +kernel
theorem dX8_isName_1 : decode cX8_isName 1 = .ok (.ifCond .lt 13, 3) := by decide +kernel
theorem dX8_isName_4 : decode cX8_isName 4 = .ok (.iload_n 0, 1) := by decide +kernel
theorem dX8_isName_5 : decode cX8_isName 5 = .ok (.bipush 6, 2) := by decide +kernel
theorem dX8_isName_7 : decode cX8_isName 7 = .ok (.if_icmp .ge 7, 3) := by decide +kernel
theorem dX8_isName_10 : decode cX8_isName 10 = .ok (.iconst 1, 1) := by decide +kernel
theorem dX8_isName_11 : decode cX8_isName 11 = .ok (.goto 4, 3) := by decide +kernel
theorem dX8_isName_14 : decode cX8_isName 14 = .ok (.iconst 0, 1) := by decide +kernel
theorem dX8_isName_15 : decode cX8_isName 15 = .ok (.ireturn, 1) := by decide +kernel
theorem dX8_isTwoHosts_0 : decode cX8_isTwoHosts 0 = .ok (.aload_n 0, 1) := by decide +kernel
theorem dX8_isTwoHosts_1 : decode cX8_isTwoHosts 1 = .ok (.getfield 12, 3) := by decide +kernel
theorem dX8_isTwoHosts_4 : decode cX8_isTwoHosts 4 = .ok (.iload_n 1, 1) := by decide +kernel
theorem dX8_isTwoHosts_5 : decode cX8_isTwoHosts 5 = .ok (.invokevirtual 93, 3) := by decide +kernel
theorem dX8_isTwoHosts_8 : decode cX8_isTwoHosts 8 = .ok (.ifCond .eq 23, 3) := by decide +kernel
theorem dX8_isTwoHosts_11 : decode cX8_isTwoHosts 11 = .ok (.aload_n 0, 1) := by decide +kernel
theorem dX8_isTwoHosts_12 : decode cX8_isTwoHosts 12 = .ok (.getfield 12, 3) := by decide +kernel
theorem dX8_isTwoHosts_15 : decode cX8_isTwoHosts 15 = .ok (.iload_n 2, 1) := by decide +kernel
theorem dX8_isTwoHosts_16 : decode cX8_isTwoHosts 16 = .ok (.invokevirtual 93, 3) := by decide +kernel
theorem dX8_isTwoHosts_19 : decode cX8_isTwoHosts 19 = .ok (.ifCond .eq 12, 3) := by decide +kernel
theorem dX8_isTwoHosts_22 : decode cX8_isTwoHosts 22 = .ok (.iload_n 1, 1) := by decide +kernel
theorem dX8_isTwoHosts_23 : decode cX8_isTwoHosts 23 = .ok (.iload_n 2, 1) := by decide +kernel
theorem dX8_isTwoHosts_24 : decode cX8_isTwoHosts 24 = .ok (.if_icmp .eq 7, 3) := by decide +kernel
theorem dX8_isTwoHosts_27 : decode cX8_isTwoHosts 27 = .ok (.iconst 1, 1) := by decide +kernel
theorem dX8_isTwoHosts_28 : decode cX8_isTwoHosts 28 = .ok (.goto 4, 3) := by decide +kernel
theorem dX8_isTwoHosts_31 : decode cX8_isTwoHosts 31 = .ok (.iconst 0, 1) := by decide +kernel
theorem dX8_isTwoHosts_32 : decode cX8_isTwoHosts 32 = .ok (.ireturn, 1) := by decide +kernel
theorem dX8_isCauseOrNone_0 : decode cX8_isCauseOrNone 0 = .ok (.iload_n 1, 1) := by decide +kernel
theorem dX8_isCauseOrNone_1 : decode cX8_isCauseOrNone 1 = .ok (.iconst (-1), 1) := by decide +kernel
theorem dX8_isCauseOrNone_2 : decode cX8_isCauseOrNone 2 = .ok (.if_icmp .eq 14, 3) := by decide +kernel
theorem dX8_isCauseOrNone_5 : decode cX8_isCauseOrNone 5 = .ok (.aload_n 0, 1) := by decide +kernel
theorem dX8_isCauseOrNone_6 : decode cX8_isCauseOrNone 6 = .ok (.getfield 42, 3) := by decide +kernel
theorem dX8_isCauseOrNone_9 : decode cX8_isCauseOrNone 9 = .ok (.iload_n 1, 1) := by decide +kernel
theorem dX8_isCauseOrNone_10 : decode cX8_isCauseOrNone 10 = .ok (.invokevirtual 167, 3) := by decide +kernel
theorem dX8_isCauseOrNone_13 : decode cX8_isCauseOrNone 13 = .ok (.ifCond .eq 7, 3) := by decide +kernel
theorem dX8_isCauseOrNone_16 : decode cX8_isCauseOrNone 16 = .ok (.iconst 1, 1) := by decide +kernel
theorem dX8_isCauseOrNone_17 : decode cX8_isCauseOrNone 17 = .ok (.goto 4, 3) := by decide +kernel
theorem dX8_isCauseOrNone_20 : decode cX8_isCauseOrNone 20 = .ok (.iconst 0, 1) := by decide +kernel
theorem dX8_isCauseOrNone_21 : decode cX8_isCauseOrNone 21 = .ok (.ireturn, 1) := by decide +kernel
theorem dX8_isSetOfCauses_0 : decode cX8_isSetOfCauses 0 = .ok (.iload_n 1, 1) := by decide +kernel
theorem dX8_isSetOfCauses_1 : decode cX8_isSetOfCauses 1 = .ok (.ifCond .le 18, 3) := by decide +kernel
theorem dX8_isSetOfCauses_4 : decode cX8_isSetOfCauses 4 = .ok (.iload_n 1, 1) := by decide +kernel
theorem dX8_isSetOfCauses_5 : decode cX8_isSetOfCauses 5 = .ok (.aload_n 0, 1) := by decide +kernel
theorem dX8_isSetOfCauses_6 : decode cX8_isSetOfCauses 6 = .ok (.getfield 42, 3) := by decide +kernel
theorem dX8_isSetOfCauses_9 : decode cX8_isSetOfCauses 9 = .ok (.invokevirtual 212, 3) := by decide +kernel
theorem dX8_isSetOfCauses_12 : decode cX8_isSetOfCauses 12 = .ok (.if_icmp .gt 7, 3) := by decide +kernel
theorem dX8_isSetOfCauses_15 : decode cX8_isSetOfCauses 15 = .ok (.iconst 1, 1) := by decide +kernel
theorem dX8_isSetOfCauses_16 : decode cX8_isSetOfCauses 16 = .ok (.goto 4, 3) := by decide +kernel
theorem dX8_isSetOfCauses_19 : decode cX8_isSetOfCauses 19 = .ok (.iconst 0, 1) := by decide +kernel
theorem dX8_isSetOfCauses_20 : decode cX8_isSetOfCauses 20 = .ok (.ireturn, 1) := by decide +kernel
theorem dX8_isFaultOfKind_0 : decode cX8_isFaultOfKind 0 = .ok (.iload_n 1, 1) := by decide +kernel
theorem dX8_isFaultOfKind_1 : decode cX8_isFaultOfKind 1 = .ok (.tableswitch 187 0 5 #[39, 48, 57, 81, 117, 163], 39) := by decide +kernel
theorem dX8_isFaultOfKind_40 : decode cX8_isFaultOfKind 40 = .ok (.aload_n 0, 1) := by decide +kernel
theorem dX8_isFaultOfKind_41 : decode cX8_isFaultOfKind 41 = .ok (.getfield 12, 3) := by decide +kernel
theorem dX8_isFaultOfKind_44 : decode cX8_isFaultOfKind 44 = .ok (.iload_n 2, 1) := by decide +kernel
theorem dX8_isFaultOfKind_45 : decode cX8_isFaultOfKind 45 = .ok (.invokevirtual 287, 3) := by decide +kernel
theorem dX8_isFaultOfKind_48 : decode cX8_isFaultOfKind 48 = .ok (.ireturn, 1) := by decide +kernel
theorem dX8_isFaultOfKind_49 : decode cX8_isFaultOfKind 49 = .ok (.aload_n 0, 1) := by decide +kernel
theorem dX8_isFaultOfKind_50 : decode cX8_isFaultOfKind 50 = .ok (.getfield 12, 3) := by decide +kernel
theorem dX8_isFaultOfKind_53 : decode cX8_isFaultOfKind 53 = .ok (.iload_n 2, 1) := by decide +kernel
theorem dX8_isFaultOfKind_54 : decode cX8_isFaultOfKind 54 = .ok (.invokevirtual 93, 3) := by decide +kernel
theorem dX8_isFaultOfKind_57 : decode cX8_isFaultOfKind 57 = .ok (.ireturn, 1) := by decide +kernel
theorem dX8_isFaultOfKind_58 : decode cX8_isFaultOfKind 58 = .ok (.iload_n 2, 1) := by decide +kernel
theorem dX8_isFaultOfKind_59 : decode cX8_isFaultOfKind 59 = .ok (.invokestatic 120, 3) := by decide +kernel
theorem dX8_isFaultOfKind_62 : decode cX8_isFaultOfKind 62 = .ok (.ifCond .eq 18, 3) := by decide +kernel
theorem dX8_isFaultOfKind_65 : decode cX8_isFaultOfKind 65 = .ok (.aload_n 0, 1) := by decide +kernel
theorem dX8_isFaultOfKind_66 : decode cX8_isFaultOfKind 66 = .ok (.getfield 12, 3) := by decide +kernel
theorem dX8_isFaultOfKind_69 : decode cX8_isFaultOfKind 69 = .ok (.iload_n 3, 1) := by decide +kernel
theorem dX8_isFaultOfKind_70 : decode cX8_isFaultOfKind 70 = .ok (.invokevirtual 93, 3) := by decide +kernel
theorem dX8_isFaultOfKind_73 : decode cX8_isFaultOfKind 73 = .ok (.ifCond .eq 7, 3) := by decide +kernel
theorem dX8_isFaultOfKind_76 : decode cX8_isFaultOfKind 76 = .ok (.iconst 1, 1) := by decide +kernel
theorem dX8_isFaultOfKind_77 : decode cX8_isFaultOfKind 77 = .ok (.goto 4, 3) := by decide +kernel
theorem dX8_isFaultOfKind_80 : decode cX8_isFaultOfKind 80 = .ok (.iconst 0, 1) := by decide +kernel
theorem dX8_isFaultOfKind_81 : decode cX8_isFaultOfKind 81 = .ok (.ireturn, 1) := by decide +kernel
theorem dX8_isFaultOfKind_82 : decode cX8_isFaultOfKind 82 = .ok (.aload_n 0, 1) := by decide +kernel
theorem dX8_isFaultOfKind_83 : decode cX8_isFaultOfKind 83 = .ok (.getfield 12, 3) := by decide +kernel
theorem dX8_isFaultOfKind_86 : decode cX8_isFaultOfKind 86 = .ok (.iload_n 2, 1) := by decide +kernel
theorem dX8_isFaultOfKind_87 : decode cX8_isFaultOfKind 87 = .ok (.invokevirtual 106, 3) := by decide +kernel
theorem dX8_isFaultOfKind_90 : decode cX8_isFaultOfKind 90 = .ok (.ifCond .eq 26, 3) := by decide +kernel
theorem dX8_isFaultOfKind_93 : decode cX8_isFaultOfKind 93 = .ok (.aload_n 0, 1) := by decide +kernel
theorem dX8_isFaultOfKind_94 : decode cX8_isFaultOfKind 94 = .ok (.getfield 12, 3) := by decide +kernel
theorem dX8_isFaultOfKind_97 : decode cX8_isFaultOfKind 97 = .ok (.iload_n 3, 1) := by decide +kernel
theorem dX8_isFaultOfKind_98 : decode cX8_isFaultOfKind 98 = .ok (.invokevirtual 93, 3) := by decide +kernel
theorem dX8_isFaultOfKind_101 : decode cX8_isFaultOfKind 101 = .ok (.ifCond .eq 15, 3) := by decide +kernel
theorem dX8_isFaultOfKind_104 : decode cX8_isFaultOfKind 104 = .ok (.iload 4, 2) := by decide +kernel
theorem dX8_isFaultOfKind_106 : decode cX8_isFaultOfKind 106 = .ok (.invokestatic 109, 3) := by decide +kernel
theorem dX8_isFaultOfKind_109 : decode cX8_isFaultOfKind 109 = .ok (.ifCond .eq 7, 3) := by decide +kernel
theorem dX8_isFaultOfKind_112 : decode cX8_isFaultOfKind 112 = .ok (.iconst 1, 1) := by decide +kernel
theorem dX8_isFaultOfKind_113 : decode cX8_isFaultOfKind 113 = .ok (.goto 4, 3) := by decide +kernel
theorem dX8_isFaultOfKind_116 : decode cX8_isFaultOfKind 116 = .ok (.iconst 0, 1) := by decide +kernel
theorem dX8_isFaultOfKind_117 : decode cX8_isFaultOfKind 117 = .ok (.ireturn, 1) := by decide +kernel
theorem dX8_isFaultOfKind_118 : decode cX8_isFaultOfKind 118 = .ok (.aload_n 0, 1) := by decide +kernel
theorem dX8_isFaultOfKind_119 : decode cX8_isFaultOfKind 119 = .ok (.getfield 12, 3) := by decide +kernel
theorem dX8_isFaultOfKind_122 : decode cX8_isFaultOfKind 122 = .ok (.iload_n 2, 1) := by decide +kernel
theorem dX8_isFaultOfKind_123 : decode cX8_isFaultOfKind 123 = .ok (.invokevirtual 89, 3) := by decide +kernel
theorem dX8_isFaultOfKind_126 : decode cX8_isFaultOfKind 126 = .ok (.ifCond .eq 36, 3) := by decide +kernel
theorem dX8_isFaultOfKind_129 : decode cX8_isFaultOfKind 129 = .ok (.aload_n 0, 1) := by decide +kernel
theorem dX8_isFaultOfKind_130 : decode cX8_isFaultOfKind 130 = .ok (.getfield 12, 3) := by decide +kernel
theorem dX8_isFaultOfKind_133 : decode cX8_isFaultOfKind 133 = .ok (.iload_n 3, 1) := by decide +kernel
theorem dX8_isFaultOfKind_134 : decode cX8_isFaultOfKind 134 = .ok (.invokevirtual 93, 3) := by decide +kernel
theorem dX8_isFaultOfKind_137 : decode cX8_isFaultOfKind 137 = .ok (.ifCond .eq 25, 3) := by decide +kernel
theorem dX8_isFaultOfKind_140 : decode cX8_isFaultOfKind 140 = .ok (.aload_n 0, 1) := by decide +kernel
theorem dX8_isFaultOfKind_141 : decode cX8_isFaultOfKind 141 = .ok (.getfield 12, 3) := by decide +kernel
theorem dX8_isFaultOfKind_144 : decode cX8_isFaultOfKind 144 = .ok (.iload 4, 2) := by decide +kernel
theorem dX8_isFaultOfKind_146 : decode cX8_isFaultOfKind 146 = .ok (.invokevirtual 96, 3) := by decide +kernel
theorem dX8_isFaultOfKind_149 : decode cX8_isFaultOfKind 149 = .ok (.ifCond .eq 13, 3) := by decide +kernel
theorem dX8_isFaultOfKind_152 : decode cX8_isFaultOfKind 152 = .ok (.iload 4, 2) := by decide +kernel
theorem dX8_isFaultOfKind_154 : decode cX8_isFaultOfKind 154 = .ok (.iload_n 2, 1) := by decide +kernel
theorem dX8_isFaultOfKind_155 : decode cX8_isFaultOfKind 155 = .ok (.if_icmp .eq 7, 3) := by decide +kernel
theorem dX8_isFaultOfKind_158 : decode cX8_isFaultOfKind 158 = .ok (.iconst 1, 1) := by decide +kernel
theorem dX8_isFaultOfKind_159 : decode cX8_isFaultOfKind 159 = .ok (.goto 4, 3) := by decide +kernel
theorem dX8_isFaultOfKind_162 : decode cX8_isFaultOfKind 162 = .ok (.iconst 0, 1) := by decide +kernel
theorem dX8_isFaultOfKind_163 : decode cX8_isFaultOfKind 163 = .ok (.ireturn, 1) := by decide +kernel
theorem dX8_isFaultOfKind_164 : decode cX8_isFaultOfKind 164 = .ok (.aload_n 0, 1) := by decide +kernel
theorem dX8_isFaultOfKind_165 : decode cX8_isFaultOfKind 165 = .ok (.getfield 12, 3) := by decide +kernel
theorem dX8_isFaultOfKind_168 : decode cX8_isFaultOfKind 168 = .ok (.iload_n 2, 1) := by decide +kernel
theorem dX8_isFaultOfKind_169 : decode cX8_isFaultOfKind 169 = .ok (.invokevirtual 93, 3) := by decide +kernel
theorem dX8_isFaultOfKind_172 : decode cX8_isFaultOfKind 172 = .ok (.ifCond .eq 14, 3) := by decide +kernel
theorem dX8_isFaultOfKind_175 : decode cX8_isFaultOfKind 175 = .ok (.iload_n 3, 1) := by decide +kernel
theorem dX8_isFaultOfKind_176 : decode cX8_isFaultOfKind 176 = .ok (.invokestatic 109, 3) := by decide +kernel
theorem dX8_isFaultOfKind_179 : decode cX8_isFaultOfKind 179 = .ok (.ifCond .eq 7, 3) := by decide +kernel
theorem dX8_isFaultOfKind_182 : decode cX8_isFaultOfKind 182 = .ok (.iconst 1, 1) := by decide +kernel
theorem dX8_isFaultOfKind_183 : decode cX8_isFaultOfKind 183 = .ok (.goto 4, 3) := by decide +kernel
theorem dX8_isFaultOfKind_186 : decode cX8_isFaultOfKind 186 = .ok (.iconst 0, 1) := by decide +kernel
theorem dX8_isFaultOfKind_187 : decode cX8_isFaultOfKind 187 = .ok (.ireturn, 1) := by decide +kernel
theorem dX8_isFaultOfKind_188 : decode cX8_isFaultOfKind 188 = .ok (.iconst 0, 1) := by decide +kernel
theorem dX8_isFaultOfKind_189 : decode cX8_isFaultOfKind 189 = .ok (.ireturn, 1) := by decide +kernel
theorem dX8_isLookOfKind_0 : decode cX8_isLookOfKind 0 = .ok (.iload_n 1, 1) := by decide +kernel
theorem dX8_isLookOfKind_1 : decode cX8_isLookOfKind 1 = .ok (.tableswitch 111 0 4 #[35, 35, 42, 74, 102], 35) := by decide +kernel
theorem dX8_isLookOfKind_36 : decode cX8_isLookOfKind 36 = .ok (.aload_n 0, 1) := by decide +kernel
theorem dX8_isLookOfKind_37 : decode cX8_isLookOfKind 37 = .ok (.iload_n 2, 1) := by decide +kernel
theorem dX8_isLookOfKind_38 : decode cX8_isLookOfKind 38 = .ok (.iload_n 3, 1) := by decide +kernel
theorem dX8_isLookOfKind_39 : decode cX8_isLookOfKind 39 = .ok (.invokevirtual 190, 3) := by decide +kernel
theorem dX8_isLookOfKind_42 : decode cX8_isLookOfKind 42 = .ok (.ireturn, 1) := by decide +kernel
theorem dX8_isLookOfKind_43 : decode cX8_isLookOfKind 43 = .ok (.aload_n 0, 1) := by decide +kernel
theorem dX8_isLookOfKind_44 : decode cX8_isLookOfKind 44 = .ok (.getfield 12, 3) := by decide +kernel
theorem dX8_isLookOfKind_47 : decode cX8_isLookOfKind 47 = .ok (.iload_n 2, 1) := by decide +kernel
theorem dX8_isLookOfKind_48 : decode cX8_isLookOfKind 48 = .ok (.invokevirtual 93, 3) := by decide +kernel
theorem dX8_isLookOfKind_51 : decode cX8_isLookOfKind 51 = .ok (.ifCond .eq 22, 3) := by decide +kernel
theorem dX8_isLookOfKind_54 : decode cX8_isLookOfKind 54 = .ok (.iload_n 3, 1) := by decide +kernel
theorem dX8_isLookOfKind_55 : decode cX8_isLookOfKind 55 = .ok (.invokestatic 120, 3) := by decide +kernel
theorem dX8_isLookOfKind_58 : decode cX8_isLookOfKind 58 = .ok (.ifCond .eq 15, 3) := by decide +kernel
theorem dX8_isLookOfKind_61 : decode cX8_isLookOfKind 61 = .ok (.iload 4, 2) := by decide +kernel
theorem dX8_isLookOfKind_63 : decode cX8_isLookOfKind 63 = .ok (.invokestatic 109, 3) := by decide +kernel
theorem dX8_isLookOfKind_66 : decode cX8_isLookOfKind 66 = .ok (.ifCond .eq 7, 3) := by decide +kernel
theorem dX8_isLookOfKind_69 : decode cX8_isLookOfKind 69 = .ok (.iconst 1, 1) := by decide +kernel
theorem dX8_isLookOfKind_70 : decode cX8_isLookOfKind 70 = .ok (.goto 4, 3) := by decide +kernel
theorem dX8_isLookOfKind_73 : decode cX8_isLookOfKind 73 = .ok (.iconst 0, 1) := by decide +kernel
theorem dX8_isLookOfKind_74 : decode cX8_isLookOfKind 74 = .ok (.ireturn, 1) := by decide +kernel
theorem dX8_isLookOfKind_75 : decode cX8_isLookOfKind 75 = .ok (.aload_n 0, 1) := by decide +kernel
theorem dX8_isLookOfKind_76 : decode cX8_isLookOfKind 76 = .ok (.getfield 12, 3) := by decide +kernel
theorem dX8_isLookOfKind_79 : decode cX8_isLookOfKind 79 = .ok (.iload_n 2, 1) := by decide +kernel
theorem dX8_isLookOfKind_80 : decode cX8_isLookOfKind 80 = .ok (.invokevirtual 89, 3) := by decide +kernel
theorem dX8_isLookOfKind_83 : decode cX8_isLookOfKind 83 = .ok (.ifCond .eq 18, 3) := by decide +kernel
theorem dX8_isLookOfKind_86 : decode cX8_isLookOfKind 86 = .ok (.aload_n 0, 1) := by decide +kernel
theorem dX8_isLookOfKind_87 : decode cX8_isLookOfKind 87 = .ok (.getfield 12, 3) := by decide +kernel
theorem dX8_isLookOfKind_90 : decode cX8_isLookOfKind 90 = .ok (.iload_n 3, 1) := by decide +kernel
theorem dX8_isLookOfKind_91 : decode cX8_isLookOfKind 91 = .ok (.invokevirtual 93, 3) := by decide +kernel
theorem dX8_isLookOfKind_94 : decode cX8_isLookOfKind 94 = .ok (.ifCond .eq 7, 3) := by decide +kernel
theorem dX8_isLookOfKind_97 : decode cX8_isLookOfKind 97 = .ok (.iconst 1, 1) := by decide +kernel
theorem dX8_isLookOfKind_98 : decode cX8_isLookOfKind 98 = .ok (.goto 4, 3) := by decide +kernel
theorem dX8_isLookOfKind_101 : decode cX8_isLookOfKind 101 = .ok (.iconst 0, 1) := by decide +kernel
theorem dX8_isLookOfKind_102 : decode cX8_isLookOfKind 102 = .ok (.ireturn, 1) := by decide +kernel
theorem dX8_isLookOfKind_103 : decode cX8_isLookOfKind 103 = .ok (.aload_n 0, 1) := by decide +kernel
theorem dX8_isLookOfKind_104 : decode cX8_isLookOfKind 104 = .ok (.getfield 12, 3) := by decide +kernel
theorem dX8_isLookOfKind_107 : decode cX8_isLookOfKind 107 = .ok (.iload_n 2, 1) := by decide +kernel
theorem dX8_isLookOfKind_108 : decode cX8_isLookOfKind 108 = .ok (.invokevirtual 287, 3) := by decide +kernel
theorem dX8_isLookOfKind_111 : decode cX8_isLookOfKind 111 = .ok (.ireturn, 1) := by decide +kernel
theorem dX8_isLookOfKind_112 : decode cX8_isLookOfKind 112 = .ok (.iconst 0, 1) := by decide +kernel
theorem dX8_isLookOfKind_113 : decode cX8_isLookOfKind 113 = .ok (.ireturn, 1) := by decide +kernel
theorem dX8_kept_0 : decode cX8_kept 0 = .ok (.iload_n 1, 1) := by decide +kernel
theorem dX8_kept_1 : decode cX8_kept 1 = .ok (.iconst (-1), 1) := by decide +kernel
theorem dX8_kept_2 : decode cX8_kept 2 = .ok (.if_icmp .eq 7, 3) := by decide +kernel
theorem dX8_kept_5 : decode cX8_kept 5 = .ok (.aload_n 0, 1) := by decide +kernel
theorem dX8_kept_6 : decode cX8_kept 6 = .ok (.invokevirtual 103, 3) := by decide +kernel
theorem dX8_kept_9 : decode cX8_kept 9 = .ok (.iload_n 1, 1) := by decide +kernel
theorem dX8_kept_10 : decode cX8_kept 10 = .ok (.ireturn, 1) := by decide +kernel
theorem dX8_changed_0 : decode cX8_changed 0 = .ok (.aload_n 0, 1) := by decide +kernel
theorem dX8_changed_1 : decode cX8_changed 1 = .ok (.getfield 60, 3) := by decide +kernel
theorem dX8_changed_4 : decode cX8_changed 4 = .ok (.invokevirtual 290, 3) := by decide +kernel
theorem dX8_changed_7 : decode cX8_changed 7 = .ok (.aload_n 0, 1) := by decide +kernel
theorem dX8_changed_8 : decode cX8_changed 8 = .ok (.getfield 67, 3) := by decide +kernel
theorem dX8_changed_11 : decode cX8_changed 11 = .ok (.invokevirtual 293, 3) := by decide +kernel
theorem dX8_changed_14 : decode cX8_changed 14 = .ok (.return_, 1) := by decide +kernel
theorem dX8_breakBy_0 : decode cX8_breakBy 0 = .ok (.aload_n 0, 1) := by decide +kernel
theorem dX8_breakBy_1 : decode cX8_breakBy 1 = .ok (.getfield 23, 3) := by decide +kernel
theorem dX8_breakBy_4 : decode cX8_breakBy 4 = .ok (.aload_n 0, 1) := by decide +kernel
theorem dX8_breakBy_5 : decode cX8_breakBy 5 = .ok (.getfield 19, 3) := by decide +kernel
theorem dX8_breakBy_8 : decode cX8_breakBy 8 = .ok (.invokevirtual 296, 3) := by decide +kernel
theorem dX8_breakBy_11 : decode cX8_breakBy 11 = .ok (.aload_n 0, 1) := by decide +kernel
theorem dX8_breakBy_12 : decode cX8_breakBy 12 = .ok (.getfield 42, 3) := by decide +kernel
theorem dX8_breakBy_15 : decode cX8_breakBy 15 = .ok (.iload_n 1, 1) := by decide +kernel
theorem dX8_breakBy_16 : decode cX8_breakBy 16 = .ok (.invokevirtual 167, 3) := by decide +kernel
theorem dX8_breakBy_19 : decode cX8_breakBy 19 = .ok (.ifCond .eq 31, 3) := by decide +kernel
theorem dX8_breakBy_22 : decode cX8_breakBy 22 = .ok (.aload_n 0, 1) := by decide +kernel
theorem dX8_breakBy_23 : decode cX8_breakBy 23 = .ok (.aload_n 0, 1) := by decide +kernel
theorem dX8_breakBy_24 : decode cX8_breakBy 24 = .ok (.getfield 42, 3) := by decide +kernel
theorem dX8_breakBy_27 : decode cX8_breakBy 27 = .ok (.iload_n 1, 1) := by decide +kernel
theorem dX8_breakBy_28 : decode cX8_breakBy 28 = .ok (.iconst 1, 1) := by decide +kernel
theorem dX8_breakBy_29 : decode cX8_breakBy 29 = .ok (.invokevirtual 233, 3) := by decide +kernel
theorem dX8_breakBy_32 : decode cX8_breakBy 32 = .ok (.iload_n 2, 1) := by decide +kernel
theorem dX8_breakBy_33 : decode cX8_breakBy 33 = .ok (.invokevirtual 300, 3) := by decide +kernel
theorem dX8_breakBy_36 : decode cX8_breakBy 36 = .ok (.aload_n 0, 1) := by decide +kernel
theorem dX8_breakBy_37 : decode cX8_breakBy 37 = .ok (.aload_n 0, 1) := by decide +kernel
theorem dX8_breakBy_38 : decode cX8_breakBy 38 = .ok (.getfield 42, 3) := by decide +kernel
theorem dX8_breakBy_41 : decode cX8_breakBy 41 = .ok (.iload_n 1, 1) := by decide +kernel
theorem dX8_breakBy_42 : decode cX8_breakBy 42 = .ok (.iconst 2, 1) := by decide +kernel
theorem dX8_breakBy_43 : decode cX8_breakBy 43 = .ok (.invokevirtual 233, 3) := by decide +kernel
theorem dX8_breakBy_46 : decode cX8_breakBy 46 = .ok (.iload_n 2, 1) := by decide +kernel
theorem dX8_breakBy_47 : decode cX8_breakBy 47 = .ok (.invokevirtual 300, 3) := by decide +kernel
theorem dX8_breakBy_50 : decode cX8_breakBy 50 = .ok (.return_, 1) := by decide +kernel
theorem dX8_breakWith_0 : decode cX8_breakWith 0 = .ok (.aload_n 0, 1) := by decide +kernel
theorem dX8_breakWith_1 : decode cX8_breakWith 1 = .ok (.getfield 38, 3) := by decide +kernel
theorem dX8_breakWith_4 : decode cX8_breakWith 4 = .ok (.iload_n 1, 1) := by decide +kernel
theorem dX8_breakWith_5 : decode cX8_breakWith 5 = .ok (.invokevirtual 167, 3) := by decide +kernel
theorem dX8_breakWith_8 : decode cX8_breakWith 8 = .ok (.ifCond .eq 54, 3) := by decide +kernel
theorem dX8_breakWith_11 : decode cX8_breakWith 11 = .ok (.iload_n 2, 1) := by decide +kernel
theorem dX8_breakWith_12 : decode cX8_breakWith 12 = .ok (.iload_n 1, 1) := by decide +kernel
theorem dX8_breakWith_13 : decode cX8_breakWith 13 = .ok (.invokestatic 303, 3) := by decide +kernel
theorem dX8_breakWith_16 : decode cX8_breakWith 16 = .ok (.ifCond .ne 46, 3) := by decide +kernel
theorem dX8_breakWith_19 : decode cX8_breakWith 19 = .ok (.aload_n 0, 1) := by decide +kernel
theorem dX8_breakWith_20 : decode cX8_breakWith 20 = .ok (.getfield 23, 3) := by decide +kernel
theorem dX8_breakWith_23 : decode cX8_breakWith 23 = .ok (.aload_n 0, 1) := by decide +kernel
theorem dX8_breakWith_24 : decode cX8_breakWith 24 = .ok (.getfield 38, 3) := by decide +kernel
theorem dX8_breakWith_27 : decode cX8_breakWith 27 = .ok (.iload_n 1, 1) := by decide +kernel
theorem dX8_breakWith_28 : decode cX8_breakWith 28 = .ok (.iconst 0, 1) := by decide +kernel
theorem dX8_breakWith_29 : decode cX8_breakWith 29 = .ok (.invokevirtual 233, 3) := by decide +kernel
theorem dX8_breakWith_32 : decode cX8_breakWith 32 = .ok (.aload_n 0, 1) := by decide +kernel
theorem dX8_breakWith_33 : decode cX8_breakWith 33 = .ok (.getfield 38, 3) := by decide +kernel
theorem dX8_breakWith_36 : decode cX8_breakWith 36 = .ok (.iload_n 1, 1) := by decide +kernel
theorem dX8_breakWith_37 : decode cX8_breakWith 37 = .ok (.iconst 1, 1) := by decide +kernel
theorem dX8_breakWith_38 : decode cX8_breakWith 38 = .ok (.invokevirtual 233, 3) := by decide +kernel
theorem dX8_breakWith_41 : decode cX8_breakWith 41 = .ok (.aload_n 0, 1) := by decide +kernel
theorem dX8_breakWith_42 : decode cX8_breakWith 42 = .ok (.getfield 38, 3) := by decide +kernel
theorem dX8_breakWith_45 : decode cX8_breakWith 45 = .ok (.iload_n 1, 1) := by decide +kernel
theorem dX8_breakWith_46 : decode cX8_breakWith 46 = .ok (.iconst 2, 1) := by decide +kernel
theorem dX8_breakWith_47 : decode cX8_breakWith 47 = .ok (.invokevirtual 233, 3) := by decide +kernel
theorem dX8_breakWith_50 : decode cX8_breakWith 50 = .ok (.aload_n 0, 1) := by decide +kernel
theorem dX8_breakWith_51 : decode cX8_breakWith 51 = .ok (.getfield 38, 3) := by decide +kernel
theorem dX8_breakWith_54 : decode cX8_breakWith 54 = .ok (.iload_n 1, 1) := by decide +kernel
theorem dX8_breakWith_55 : decode cX8_breakWith 55 = .ok (.iconst 3, 1) := by decide +kernel
theorem dX8_breakWith_56 : decode cX8_breakWith 56 = .ok (.invokevirtual 233, 3) := by decide +kernel
theorem dX8_breakWith_59 : decode cX8_breakWith 59 = .ok (.invokevirtual 306, 3) := by decide +kernel
theorem dX8_breakWith_62 : decode cX8_breakWith 62 = .ok (.return_, 1) := by decide +kernel
theorem dX8_unmended_0 : decode cX8_unmended 0 = .ok (.iload_n 1, 1) := by decide +kernel
theorem dX8_unmended_1 : decode cX8_unmended 1 = .ok (.iconst (-1), 1) := by decide +kernel
theorem dX8_unmended_2 : decode cX8_unmended 2 = .ok (.if_icmp .eq 18, 3) := by decide +kernel
theorem dX8_unmended_5 : decode cX8_unmended 5 = .ok (.aload_n 0, 1) := by decide +kernel
theorem dX8_unmended_6 : decode cX8_unmended 6 = .ok (.getfield 67, 3) := by decide +kernel
theorem dX8_unmended_9 : decode cX8_unmended 9 = .ok (.iload_n 1, 1) := by decide +kernel
theorem dX8_unmended_10 : decode cX8_unmended 10 = .ok (.invokevirtual 251, 3) := by decide +kernel
theorem dX8_unmended_13 : decode cX8_unmended 13 = .ok (.ifCond .ne 7, 3) := by decide +kernel
theorem dX8_unmended_16 : decode cX8_unmended 16 = .ok (.iconst 1, 1) := by decide +kernel
theorem dX8_unmended_17 : decode cX8_unmended 17 = .ok (.goto 4, 3) := by decide +kernel
theorem dX8_unmended_20 : decode cX8_unmended 20 = .ok (.iconst 0, 1) := by decide +kernel
theorem dX8_unmended_21 : decode cX8_unmended 21 = .ok (.ireturn, 1) := by decide +kernel
theorem dX8_prepare_0 : decode cX8_prepare 0 = .ok (.aload_n 0, 1) := by decide +kernel
theorem dX8_prepare_1 : decode cX8_prepare 1 = .ok (.getfield 60, 3) := by decide +kernel
theorem dX8_prepare_4 : decode cX8_prepare 4 = .ok (.invokevirtual 310, 3) := by decide +kernel
theorem dX8_prepare_7 : decode cX8_prepare 7 = .ok (.ifCond .eq 4, 3) := by decide +kernel
theorem dX8_prepare_10 : decode cX8_prepare 10 = .ok (.return_, 1) := by decide +kernel
theorem dX8_prepare_11 : decode cX8_prepare 11 = .ok (.aload_n 0, 1) := by decide +kernel
theorem dX8_prepare_12 : decode cX8_prepare 12 = .ok (.getfield 60, 3) := by decide +kernel
theorem dX8_prepare_15 : decode cX8_prepare 15 = .ok (.aload_n 0, 1) := by decide +kernel
theorem dX8_prepare_16 : decode cX8_prepare 16 = .ok (.getfield 45, 3) := by decide +kernel
theorem dX8_prepare_19 : decode cX8_prepare 19 = .ok (.invokevirtual 144, 3) := by decide +kernel
theorem dX8_prepare_22 : decode cX8_prepare 22 = .ok (.aload_n 0, 1) := by decide +kernel
theorem dX8_prepare_23 : decode cX8_prepare 23 = .ok (.getfield 42, 3) := by decide +kernel
theorem dX8_prepare_26 : decode cX8_prepare 26 = .ok (.invokevirtual 144, 3) := by decide +kernel
theorem dX8_prepare_29 : decode cX8_prepare 29 = .ok (.invokevirtual 313, 3) := by decide +kernel
theorem dX8_prepare_32 : decode cX8_prepare 32 = .ok (.iconst 0, 1) := by decide +kernel
theorem dX8_prepare_33 : decode cX8_prepare 33 = .ok (.istore_n 1, 1) := by decide +kernel
theorem dX8_prepare_34 : decode cX8_prepare 34 = .ok (.iload_n 1, 1) := by decide +kernel
theorem dX8_prepare_35 : decode cX8_prepare 35 = .ok (.aload_n 0, 1) := by decide +kernel
theorem dX8_prepare_36 : decode cX8_prepare 36 = .ok (.getfield 42, 3) := by decide +kernel
theorem dX8_prepare_39 : decode cX8_prepare 39 = .ok (.invokevirtual 144, 3) := by decide +kernel
theorem dX8_prepare_42 : decode cX8_prepare 42 = .ok (.if_icmp .ge 55, 3) := by decide +kernel
theorem dX8_prepare_45 : decode cX8_prepare 45 = .ok (.aload_n 0, 1) := by decide +kernel
theorem dX8_prepare_46 : decode cX8_prepare 46 = .ok (.iload_n 1, 1) := by decide +kernel
theorem dX8_prepare_47 : decode cX8_prepare 47 = .ok (.iconst 0, 1) := by decide +kernel
theorem dX8_prepare_48 : decode cX8_prepare 48 = .ok (.invokevirtual 183, 3) := by decide +kernel
theorem dX8_prepare_51 : decode cX8_prepare 51 = .ok (.iconst 0, 1) := by decide +kernel
theorem dX8_prepare_52 : decode cX8_prepare 52 = .ok (.istore_n 2, 1) := by decide +kernel
theorem dX8_prepare_53 : decode cX8_prepare 53 = .ok (.iload_n 2, 1) := by decide +kernel
theorem dX8_prepare_54 : decode cX8_prepare 54 = .ok (.aload_n 0, 1) := by decide +kernel
theorem dX8_prepare_55 : decode cX8_prepare 55 = .ok (.getfield 45, 3) := by decide +kernel
theorem dX8_prepare_58 : decode cX8_prepare 58 = .ok (.invokevirtual 144, 3) := by decide +kernel
theorem dX8_prepare_61 : decode cX8_prepare 61 = .ok (.if_icmp .ge 30, 3) := by decide +kernel
theorem dX8_prepare_64 : decode cX8_prepare 64 = .ok (.aload_n 0, 1) := by decide +kernel
theorem dX8_prepare_65 : decode cX8_prepare 65 = .ok (.getfield 60, 3) := by decide +kernel
theorem dX8_prepare_68 : decode cX8_prepare 68 = .ok (.iload_n 2, 1) := by decide +kernel
theorem dX8_prepare_69 : decode cX8_prepare 69 = .ok (.iload_n 1, 1) := by decide +kernel
theorem dX8_prepare_70 : decode cX8_prepare 70 = .ok (.aload_n 0, 1) := by decide +kernel
theorem dX8_prepare_71 : decode cX8_prepare 71 = .ok (.getfield 53, 3) := by decide +kernel
theorem dX8_prepare_74 : decode cX8_prepare 74 = .ok (.iload_n 2, 1) := by decide +kernel
theorem dX8_prepare_75 : decode cX8_prepare 75 = .ok (.aload_n 0, 1) := by decide +kernel
theorem dX8_prepare_76 : decode cX8_prepare 76 = .ok (.getfield 23, 3) := by decide +kernel
theorem dX8_prepare_79 : decode cX8_prepare 79 = .ok (.invokevirtual 186, 3) := by decide +kernel
theorem dX8_prepare_82 : decode cX8_prepare 82 = .ok (.invokevirtual 314, 3) := by decide +kernel
theorem dX8_prepare_85 : decode cX8_prepare 85 = .ok (.iinc 2 1, 3) := by decide +kernel
theorem dX8_prepare_88 : decode cX8_prepare 88 = .ok (.goto (-35), 3) := by decide +kernel
theorem dX8_prepare_91 : decode cX8_prepare 91 = .ok (.iinc 1 1, 3) := by decide +kernel
theorem dX8_prepare_94 : decode cX8_prepare 94 = .ok (.goto (-60), 3) := by decide +kernel
theorem dX8_prepare_97 : decode cX8_prepare 97 = .ok (.iconst 0, 1) := by decide +kernel
theorem dX8_prepare_98 : decode cX8_prepare 98 = .ok (.istore_n 1, 1) := by decide +kernel
theorem dX8_prepare_99 : decode cX8_prepare 99 = .ok (.iload_n 1, 1) := by decide +kernel
theorem dX8_prepare_100 : decode cX8_prepare 100 = .ok (.aload_n 0, 1) := by decide +kernel
theorem dX8_prepare_101 : decode cX8_prepare 101 = .ok (.getfield 45, 3) := by decide +kernel
theorem dX8_prepare_104 : decode cX8_prepare 104 = .ok (.invokevirtual 144, 3) := by decide +kernel
theorem dX8_prepare_107 : decode cX8_prepare 107 = .ok (.if_icmp .ge 26, 3) := by decide +kernel
theorem dX8_prepare_110 : decode cX8_prepare 110 = .ok (.aload_n 0, 1) := by decide +kernel
theorem dX8_prepare_111 : decode cX8_prepare 111 = .ok (.getfield 60, 3) := by decide +kernel
theorem dX8_prepare_114 : decode cX8_prepare 114 = .ok (.iload_n 1, 1) := by decide +kernel
theorem dX8_prepare_115 : decode cX8_prepare 115 = .ok (.aload_n 0, 1) := by decide +kernel
theorem dX8_prepare_116 : decode cX8_prepare 116 = .ok (.getfield 45, 3) := by decide +kernel
theorem dX8_prepare_119 : decode cX8_prepare 119 = .ok (.iload_n 1, 1) := by decide +kernel
theorem dX8_prepare_120 : decode cX8_prepare 120 = .ok (.iconst 4, 1) := by decide +kernel
theorem dX8_prepare_121 : decode cX8_prepare 121 = .ok (.invokevirtual 233, 3) := by decide +kernel
theorem dX8_prepare_124 : decode cX8_prepare 124 = .ok (.invokevirtual 317, 3) := by decide +kernel
theorem dX8_prepare_127 : decode cX8_prepare 127 = .ok (.iinc 1 1, 3) := by decide +kernel
theorem dX8_prepare_130 : decode cX8_prepare 130 = .ok (.goto (-31), 3) := by decide +kernel
theorem dX8_prepare_133 : decode cX8_prepare 133 = .ok (.return_, 1) := by decide +kernel
theorem dX8_isBit_0 : decode cX8_isBit 0 = .ok (.iload_n 0, 1) := by decide +kernel
theorem dX8_isBit_1 : decode cX8_isBit 1 = .ok (.iload_n 1, 1) := by decide +kernel
theorem dX8_isBit_2 : decode cX8_isBit 2 = .ok (.ishr, 1) := by decide +kernel
theorem dX8_isBit_3 : decode cX8_isBit 3 = .ok (.iconst 1, 1) := by decide +kernel
theorem dX8_isBit_4 : decode cX8_isBit 4 = .ok (.iand, 1) := by decide +kernel
theorem dX8_isBit_5 : decode cX8_isBit 5 = .ok (.ifCond .eq 7, 3) := by decide +kernel
theorem dX8_isBit_8 : decode cX8_isBit 8 = .ok (.iconst 1, 1) := by decide +kernel
theorem dX8_isBit_9 : decode cX8_isBit 9 = .ok (.goto 4, 3) := by decide +kernel
theorem dX8_isBit_12 : decode cX8_isBit 12 = .ok (.iconst 0, 1) := by decide +kernel
theorem dX8_isBit_13 : decode cX8_isBit 13 = .ok (.ireturn, 1) := by decide +kernel
theorem dX8_lowestBit_0 : decode cX8_lowestBit 0 = .ok (.iload_n 0, 1) := by decide +kernel
theorem dX8_lowestBit_1 : decode cX8_lowestBit 1 = .ok (.iload_n 0, 1) := by decide +kernel
theorem dX8_lowestBit_2 : decode cX8_lowestBit 2 = .ok (.ineg, 1) := by decide +kernel
theorem dX8_lowestBit_3 : decode cX8_lowestBit 3 = .ok (.iand, 1) := by decide +kernel
theorem dX8_lowestBit_4 : decode cX8_lowestBit 4 = .ok (.iconst 1, 1) := by decide +kernel
theorem dX8_lowestBit_5 : decode cX8_lowestBit 5 = .ok (.isub, 1) := by decide +kernel
theorem dX8_lowestBit_6 : decode cX8_lowestBit 6 = .ok (.invokestatic 278, 3) := by decide +kernel
theorem dX8_lowestBit_9 : decode cX8_lowestBit 9 = .ok (.ireturn, 1) := by decide +kernel
theorem dJ6_numberOfTrailingZeros_0f7a4_0 : decode cJ6_numberOfTrailingZeros_0f7a4 0 = .ok (.iload_n 0, 1) := by decide +kernel
theorem dJ6_numberOfTrailingZeros_0f7a4_1 : decode cJ6_numberOfTrailingZeros_0f7a4 1 = .ok (.iconst (-1), 1) := by decide +kernel
theorem dJ6_numberOfTrailingZeros_0f7a4_2 : decode cJ6_numberOfTrailingZeros_0f7a4 2 = .ok (.ixor, 1) := by decide +kernel
theorem dJ6_numberOfTrailingZeros_0f7a4_3 : decode cJ6_numberOfTrailingZeros_0f7a4 3 = .ok (.iload_n 0, 1) := by decide +kernel
theorem dJ6_numberOfTrailingZeros_0f7a4_4 : decode cJ6_numberOfTrailingZeros_0f7a4 4 = .ok (.iconst 1, 1) := by decide +kernel
theorem dJ6_numberOfTrailingZeros_0f7a4_5 : decode cJ6_numberOfTrailingZeros_0f7a4 5 = .ok (.isub, 1) := by decide +kernel
theorem dJ6_numberOfTrailingZeros_0f7a4_6 : decode cJ6_numberOfTrailingZeros_0f7a4 6 = .ok (.iand, 1) := by decide +kernel
theorem dJ6_numberOfTrailingZeros_0f7a4_7 : decode cJ6_numberOfTrailingZeros_0f7a4 7 = .ok (.istore_n 0, 1) := by decide +kernel
theorem dJ6_numberOfTrailingZeros_0f7a4_8 : decode cJ6_numberOfTrailingZeros_0f7a4 8 = .ok (.iload_n 0, 1) := by decide +kernel
theorem dJ6_numberOfTrailingZeros_0f7a4_9 : decode cJ6_numberOfTrailingZeros_0f7a4 9 = .ok (.ifCond .gt 8, 3) := by decide +kernel
theorem dJ6_numberOfTrailingZeros_0f7a4_12 : decode cJ6_numberOfTrailingZeros_0f7a4 12 = .ok (.iload_n 0, 1) := by decide +kernel
theorem dJ6_numberOfTrailingZeros_0f7a4_13 : decode cJ6_numberOfTrailingZeros_0f7a4 13 = .ok (.bipush 32, 2) := by decide +kernel
theorem dJ6_numberOfTrailingZeros_0f7a4_15 : decode cJ6_numberOfTrailingZeros_0f7a4 15 = .ok (.iand, 1) := by decide +kernel
theorem dJ6_numberOfTrailingZeros_0f7a4_16 : decode cJ6_numberOfTrailingZeros_0f7a4 16 = .ok (.ireturn, 1) := by decide +kernel
theorem dJ6_numberOfTrailingZeros_0f7a4_17 : decode cJ6_numberOfTrailingZeros_0f7a4 17 = .ok (.iconst 1, 1) := by decide +kernel
theorem dJ6_numberOfTrailingZeros_0f7a4_18 : decode cJ6_numberOfTrailingZeros_0f7a4 18 = .ok (.istore_n 1, 1) := by decide +kernel
theorem dJ6_numberOfTrailingZeros_0f7a4_19 : decode cJ6_numberOfTrailingZeros_0f7a4 19 = .ok (.iload_n 0, 1) := by decide +kernel
theorem dJ6_numberOfTrailingZeros_0f7a4_20 : decode cJ6_numberOfTrailingZeros_0f7a4 20 = .ok (.ldc_w 264, 3) := by decide +kernel
theorem dJ6_numberOfTrailingZeros_0f7a4_23 : decode cJ6_numberOfTrailingZeros_0f7a4 23 = .ok (.if_icmp .le 11, 3) := by decide +kernel
theorem dJ6_numberOfTrailingZeros_0f7a4_26 : decode cJ6_numberOfTrailingZeros_0f7a4 26 = .ok (.iinc 1 16, 3) := by decide +kernel
theorem dJ6_numberOfTrailingZeros_0f7a4_29 : decode cJ6_numberOfTrailingZeros_0f7a4 29 = .ok (.iload_n 0, 1) := by decide +kernel
theorem dJ6_numberOfTrailingZeros_0f7a4_30 : decode cJ6_numberOfTrailingZeros_0f7a4 30 = .ok (.bipush 16, 2) := by decide +kernel
theorem dJ6_numberOfTrailingZeros_0f7a4_32 : decode cJ6_numberOfTrailingZeros_0f7a4 32 = .ok (.iushr, 1) := by decide +kernel
theorem dJ6_numberOfTrailingZeros_0f7a4_33 : decode cJ6_numberOfTrailingZeros_0f7a4 33 = .ok (.istore_n 0, 1) := by decide +kernel
theorem dJ6_numberOfTrailingZeros_0f7a4_34 : decode cJ6_numberOfTrailingZeros_0f7a4 34 = .ok (.iload_n 0, 1) := by decide +kernel
theorem dJ6_numberOfTrailingZeros_0f7a4_35 : decode cJ6_numberOfTrailingZeros_0f7a4 35 = .ok (.sipush 256, 3) := by decide +kernel
theorem dJ6_numberOfTrailingZeros_0f7a4_38 : decode cJ6_numberOfTrailingZeros_0f7a4 38 = .ok (.if_icmp .le 11, 3) := by decide +kernel
theorem dJ6_numberOfTrailingZeros_0f7a4_41 : decode cJ6_numberOfTrailingZeros_0f7a4 41 = .ok (.iinc 1 8, 3) := by decide +kernel
theorem dJ6_numberOfTrailingZeros_0f7a4_44 : decode cJ6_numberOfTrailingZeros_0f7a4 44 = .ok (.iload_n 0, 1) := by decide +kernel
theorem dJ6_numberOfTrailingZeros_0f7a4_45 : decode cJ6_numberOfTrailingZeros_0f7a4 45 = .ok (.bipush 8, 2) := by decide +kernel
theorem dJ6_numberOfTrailingZeros_0f7a4_47 : decode cJ6_numberOfTrailingZeros_0f7a4 47 = .ok (.iushr, 1) := by decide +kernel
theorem dJ6_numberOfTrailingZeros_0f7a4_48 : decode cJ6_numberOfTrailingZeros_0f7a4 48 = .ok (.istore_n 0, 1) := by decide +kernel
theorem dJ6_numberOfTrailingZeros_0f7a4_49 : decode cJ6_numberOfTrailingZeros_0f7a4 49 = .ok (.iload_n 0, 1) := by decide +kernel
theorem dJ6_numberOfTrailingZeros_0f7a4_50 : decode cJ6_numberOfTrailingZeros_0f7a4 50 = .ok (.bipush 16, 2) := by decide +kernel
theorem dJ6_numberOfTrailingZeros_0f7a4_52 : decode cJ6_numberOfTrailingZeros_0f7a4 52 = .ok (.if_icmp .le 10, 3) := by decide +kernel
theorem dJ6_numberOfTrailingZeros_0f7a4_55 : decode cJ6_numberOfTrailingZeros_0f7a4 55 = .ok (.iinc 1 4, 3) := by decide +kernel
theorem dJ6_numberOfTrailingZeros_0f7a4_58 : decode cJ6_numberOfTrailingZeros_0f7a4 58 = .ok (.iload_n 0, 1) := by decide +kernel
theorem dJ6_numberOfTrailingZeros_0f7a4_59 : decode cJ6_numberOfTrailingZeros_0f7a4 59 = .ok (.iconst 4, 1) := by decide +kernel
theorem dJ6_numberOfTrailingZeros_0f7a4_60 : decode cJ6_numberOfTrailingZeros_0f7a4 60 = .ok (.iushr, 1) := by decide +kernel
theorem dJ6_numberOfTrailingZeros_0f7a4_61 : decode cJ6_numberOfTrailingZeros_0f7a4 61 = .ok (.istore_n 0, 1) := by decide +kernel
theorem dJ6_numberOfTrailingZeros_0f7a4_62 : decode cJ6_numberOfTrailingZeros_0f7a4 62 = .ok (.iload_n 0, 1) := by decide +kernel
theorem dJ6_numberOfTrailingZeros_0f7a4_63 : decode cJ6_numberOfTrailingZeros_0f7a4 63 = .ok (.iconst 4, 1) := by decide +kernel
theorem dJ6_numberOfTrailingZeros_0f7a4_64 : decode cJ6_numberOfTrailingZeros_0f7a4 64 = .ok (.if_icmp .le 10, 3) := by decide +kernel
theorem dJ6_numberOfTrailingZeros_0f7a4_67 : decode cJ6_numberOfTrailingZeros_0f7a4 67 = .ok (.iinc 1 2, 3) := by decide +kernel
theorem dJ6_numberOfTrailingZeros_0f7a4_70 : decode cJ6_numberOfTrailingZeros_0f7a4 70 = .ok (.iload_n 0, 1) := by decide +kernel
theorem dJ6_numberOfTrailingZeros_0f7a4_71 : decode cJ6_numberOfTrailingZeros_0f7a4 71 = .ok (.iconst 2, 1) := by decide +kernel
theorem dJ6_numberOfTrailingZeros_0f7a4_72 : decode cJ6_numberOfTrailingZeros_0f7a4 72 = .ok (.iushr, 1) := by decide +kernel
theorem dJ6_numberOfTrailingZeros_0f7a4_73 : decode cJ6_numberOfTrailingZeros_0f7a4 73 = .ok (.istore_n 0, 1) := by decide +kernel
theorem dJ6_numberOfTrailingZeros_0f7a4_74 : decode cJ6_numberOfTrailingZeros_0f7a4 74 = .ok (.iload_n 1, 1) := by decide +kernel
theorem dJ6_numberOfTrailingZeros_0f7a4_75 : decode cJ6_numberOfTrailingZeros_0f7a4 75 = .ok (.iload_n 0, 1) := by decide +kernel
theorem dJ6_numberOfTrailingZeros_0f7a4_76 : decode cJ6_numberOfTrailingZeros_0f7a4 76 = .ok (.iconst 1, 1) := by decide +kernel
theorem dJ6_numberOfTrailingZeros_0f7a4_77 : decode cJ6_numberOfTrailingZeros_0f7a4 77 = .ok (.iushr, 1) := by decide +kernel
theorem dJ6_numberOfTrailingZeros_0f7a4_78 : decode cJ6_numberOfTrailingZeros_0f7a4 78 = .ok (.iadd, 1) := by decide +kernel
theorem dJ6_numberOfTrailingZeros_0f7a4_79 : decode cJ6_numberOfTrailingZeros_0f7a4 79 = .ok (.ireturn, 1) := by decide +kernel
theorem dJ6_bitCount_0f7a4_0 : decode cJ6_bitCount_0f7a4 0 = .ok (.iload_n 0, 1) := by decide +kernel
theorem dJ6_bitCount_0f7a4_1 : decode cJ6_bitCount_0f7a4 1 = .ok (.iload_n 0, 1) := by decide +kernel
theorem dJ6_bitCount_0f7a4_2 : decode cJ6_bitCount_0f7a4 2 = .ok (.iconst 1, 1) := by decide +kernel
theorem dJ6_bitCount_0f7a4_3 : decode cJ6_bitCount_0f7a4 3 = .ok (.iushr, 1) := by decide +kernel
theorem dJ6_bitCount_0f7a4_4 : decode cJ6_bitCount_0f7a4 4 = .ok (.ldc_w 265, 3) := by decide +kernel
theorem dJ6_bitCount_0f7a4_7 : decode cJ6_bitCount_0f7a4 7 = .ok (.iand, 1) := by decide +kernel
theorem dJ6_bitCount_0f7a4_8 : decode cJ6_bitCount_0f7a4 8 = .ok (.isub, 1) := by decide +kernel
theorem dJ6_bitCount_0f7a4_9 : decode cJ6_bitCount_0f7a4 9 = .ok (.istore_n 0, 1) := by decide +kernel
theorem dJ6_bitCount_0f7a4_10 : decode cJ6_bitCount_0f7a4 10 = .ok (.iload_n 0, 1) := by decide +kernel
theorem dJ6_bitCount_0f7a4_11 : decode cJ6_bitCount_0f7a4 11 = .ok (.ldc_w 266, 3) := by decide +kernel
theorem dJ6_bitCount_0f7a4_14 : decode cJ6_bitCount_0f7a4 14 = .ok (.iand, 1) := by decide +kernel
theorem dJ6_bitCount_0f7a4_15 : decode cJ6_bitCount_0f7a4 15 = .ok (.iload_n 0, 1) := by decide +kernel
theorem dJ6_bitCount_0f7a4_16 : decode cJ6_bitCount_0f7a4 16 = .ok (.iconst 2, 1) := by decide +kernel
theorem dJ6_bitCount_0f7a4_17 : decode cJ6_bitCount_0f7a4 17 = .ok (.iushr, 1) := by decide +kernel
theorem dJ6_bitCount_0f7a4_18 : decode cJ6_bitCount_0f7a4 18 = .ok (.ldc_w 266, 3) := by decide +kernel
theorem dJ6_bitCount_0f7a4_21 : decode cJ6_bitCount_0f7a4 21 = .ok (.iand, 1) := by decide +kernel
theorem dJ6_bitCount_0f7a4_22 : decode cJ6_bitCount_0f7a4 22 = .ok (.iadd, 1) := by decide +kernel
theorem dJ6_bitCount_0f7a4_23 : decode cJ6_bitCount_0f7a4 23 = .ok (.istore_n 0, 1) := by decide +kernel
theorem dJ6_bitCount_0f7a4_24 : decode cJ6_bitCount_0f7a4 24 = .ok (.iload_n 0, 1) := by decide +kernel
theorem dJ6_bitCount_0f7a4_25 : decode cJ6_bitCount_0f7a4 25 = .ok (.iload_n 0, 1) := by decide +kernel
theorem dJ6_bitCount_0f7a4_26 : decode cJ6_bitCount_0f7a4 26 = .ok (.iconst 4, 1) := by decide +kernel
theorem dJ6_bitCount_0f7a4_27 : decode cJ6_bitCount_0f7a4 27 = .ok (.iushr, 1) := by decide +kernel
theorem dJ6_bitCount_0f7a4_28 : decode cJ6_bitCount_0f7a4 28 = .ok (.iadd, 1) := by decide +kernel
theorem dJ6_bitCount_0f7a4_29 : decode cJ6_bitCount_0f7a4 29 = .ok (.ldc_w 267, 3) := by decide +kernel
theorem dJ6_bitCount_0f7a4_32 : decode cJ6_bitCount_0f7a4 32 = .ok (.iand, 1) := by decide +kernel
theorem dJ6_bitCount_0f7a4_33 : decode cJ6_bitCount_0f7a4 33 = .ok (.istore_n 0, 1) := by decide +kernel
theorem dJ6_bitCount_0f7a4_34 : decode cJ6_bitCount_0f7a4 34 = .ok (.iload_n 0, 1) := by decide +kernel
theorem dJ6_bitCount_0f7a4_35 : decode cJ6_bitCount_0f7a4 35 = .ok (.iload_n 0, 1) := by decide +kernel
theorem dJ6_bitCount_0f7a4_36 : decode cJ6_bitCount_0f7a4 36 = .ok (.bipush 8, 2) := by decide +kernel
theorem dJ6_bitCount_0f7a4_38 : decode cJ6_bitCount_0f7a4 38 = .ok (.iushr, 1) := by decide +kernel
theorem dJ6_bitCount_0f7a4_39 : decode cJ6_bitCount_0f7a4 39 = .ok (.iadd, 1) := by decide +kernel
theorem dJ6_bitCount_0f7a4_40 : decode cJ6_bitCount_0f7a4 40 = .ok (.istore_n 0, 1) := by decide +kernel
theorem dJ6_bitCount_0f7a4_41 : decode cJ6_bitCount_0f7a4 41 = .ok (.iload_n 0, 1) := by decide +kernel
theorem dJ6_bitCount_0f7a4_42 : decode cJ6_bitCount_0f7a4 42 = .ok (.iload_n 0, 1) := by decide +kernel
theorem dJ6_bitCount_0f7a4_43 : decode cJ6_bitCount_0f7a4 43 = .ok (.bipush 16, 2) := by decide +kernel
theorem dJ6_bitCount_0f7a4_45 : decode cJ6_bitCount_0f7a4 45 = .ok (.iushr, 1) := by decide +kernel
theorem dJ6_bitCount_0f7a4_46 : decode cJ6_bitCount_0f7a4 46 = .ok (.iadd, 1) := by decide +kernel
theorem dJ6_bitCount_0f7a4_47 : decode cJ6_bitCount_0f7a4 47 = .ok (.istore_n 0, 1) := by decide +kernel
theorem dJ6_bitCount_0f7a4_48 : decode cJ6_bitCount_0f7a4 48 = .ok (.iload_n 0, 1) := by decide +kernel
theorem dJ6_bitCount_0f7a4_49 : decode cJ6_bitCount_0f7a4 49 = .ok (.bipush 63, 2) := by decide +kernel
theorem dJ6_bitCount_0f7a4_51 : decode cJ6_bitCount_0f7a4 51 = .ok (.iand, 1) := by decide +kernel
theorem dJ6_bitCount_0f7a4_52 : decode cJ6_bitCount_0f7a4 52 = .ok (.ireturn, 1) := by decide +kernel
theorem dJ9_max_7cf53_0 : decode cJ9_max_7cf53 0 = .ok (.iload_n 0, 1) := by decide +kernel
theorem dJ9_max_7cf53_1 : decode cJ9_max_7cf53 1 = .ok (.iload_n 1, 1) := by decide +kernel
theorem dJ9_max_7cf53_2 : decode cJ9_max_7cf53 2 = .ok (.if_icmp .lt 7, 3) := by decide +kernel
theorem dJ9_max_7cf53_5 : decode cJ9_max_7cf53 5 = .ok (.iload_n 0, 1) := by decide +kernel
theorem dJ9_max_7cf53_6 : decode cJ9_max_7cf53 6 = .ok (.goto 4, 3) := by decide +kernel
theorem dJ9_max_7cf53_9 : decode cJ9_max_7cf53 9 = .ok (.iload_n 1, 1) := by decide +kernel
theorem dJ9_max_7cf53_10 : decode cJ9_max_7cf53 10 = .ok (.ireturn, 1) := by decide +kernel
theorem dJ9_min_7cf53_0 : decode cJ9_min_7cf53 0 = .ok (.iload_n 0, 1) := by decide +kernel
theorem dJ9_min_7cf53_1 : decode cJ9_min_7cf53 1 = .ok (.iload_n 1, 1) := by decide +kernel
theorem dJ9_min_7cf53_2 : decode cJ9_min_7cf53 2 = .ok (.if_icmp .gt 7, 3) := by decide +kernel
theorem dJ9_min_7cf53_5 : decode cJ9_min_7cf53 5 = .ok (.iload_n 0, 1) := by decide +kernel
theorem dJ9_min_7cf53_6 : decode cJ9_min_7cf53 6 = .ok (.goto 4, 3) := by decide +kernel
theorem dJ9_min_7cf53_9 : decode cJ9_min_7cf53 9 = .ok (.iload_n 1, 1) := by decide +kernel
theorem dJ9_min_7cf53_10 : decode cJ9_min_7cf53 10 = .ok (.ireturn, 1) := by decide +kernel
theorem dJ7_fill_53178_0 : decode cJ7_fill_53178 0 = .ok (.iconst 0, 1) := by decide +kernel
theorem dJ7_fill_53178_1 : decode cJ7_fill_53178 1 = .ok (.istore_n 2, 1) := by decide +kernel
theorem dJ7_fill_53178_2 : decode cJ7_fill_53178 2 = .ok (.aload_n 0, 1) := by decide +kernel
theorem dJ7_fill_53178_3 : decode cJ7_fill_53178 3 = .ok (.arraylength, 1) := by decide +kernel
theorem dJ7_fill_53178_4 : decode cJ7_fill_53178 4 = .ok (.istore_n 3, 1) := by decide +kernel
theorem dJ7_fill_53178_5 : decode cJ7_fill_53178 5 = .ok (.iload_n 2, 1) := by decide +kernel
theorem dJ7_fill_53178_6 : decode cJ7_fill_53178 6 = .ok (.iload_n 3, 1) := by decide +kernel
theorem dJ7_fill_53178_7 : decode cJ7_fill_53178 7 = .ok (.if_icmp .ge 13, 3) := by decide +kernel
theorem dJ7_fill_53178_10 : decode cJ7_fill_53178 10 = .ok (.aload_n 0, 1) := by decide +kernel
theorem dJ7_fill_53178_11 : decode cJ7_fill_53178 11 = .ok (.iload_n 2, 1) := by decide +kernel
theorem dJ7_fill_53178_12 : decode cJ7_fill_53178 12 = .ok (.iload_n 1, 1) := by decide +kernel
theorem dJ7_fill_53178_13 : decode cJ7_fill_53178 13 = .ok (.iastore, 1) := by decide +kernel
theorem dJ7_fill_53178_14 : decode cJ7_fill_53178 14 = .ok (.iinc 2 1, 3) := by decide +kernel
theorem dJ7_fill_53178_17 : decode cJ7_fill_53178 17 = .ok (.goto (-12), 3) := by decide +kernel
theorem dJ7_fill_53178_20 : decode cJ7_fill_53178 20 = .ok (.return_, 1) := by decide +kernel
