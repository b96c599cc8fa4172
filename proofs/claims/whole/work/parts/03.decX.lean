theorem dX0_init_0 : decode cX0_init 0 = .ok (.aload_n 0, 1) := by decide +kernel
theorem dX0_init_1 : decode cX0_init 1 = .ok (.invokespecial 3, 3) := by decide +kernel
theorem dX0_init_4 : decode cX0_init 4 = .ok (.return_, 1) := by decide +kernel
theorem dX0_isBusy_0 : decode cX0_isBusy 0 = .ok (.aload_n 0, 1) := by decide +kernel
theorem dX0_isBusy_1 : decode cX0_isBusy 1 = .ok (.getfield 9, 3) := by decide +kernel
theorem dX0_isBusy_4 : decode cX0_isBusy 4 = .ok (.ifnull 7, 3) := by decide +kernel
theorem dX0_isBusy_7 : decode cX0_isBusy 7 = .ok (.iconst 1, 1) := by decide +kernel
theorem dX0_isBusy_8 : decode cX0_isBusy 8 = .ok (.goto 4, 3) := by decide +kernel
theorem dX0_isBusy_11 : decode cX0_isBusy 11 = .ok (.iconst 0, 1) := by decide +kernel
theorem dX0_isBusy_12 : decode cX0_isBusy 12 = .ok (.ireturn, 1) := by decide +kernel
theorem dX0_holds_0 : decode cX0_holds 0 = .ok (.aload_n 0, 1) := by decide +kernel
theorem dX0_holds_1 : decode cX0_holds 1 = .ok (.getfield 9, 3) := by decide +kernel
theorem dX0_holds_4 : decode cX0_holds 4 = .ok (.astore_n 2, 1) := by decide +kernel
theorem dX0_holds_5 : decode cX0_holds 5 = .ok (.aload_n 2, 1) := by decide +kernel
theorem dX0_holds_6 : decode cX0_holds 6 = .ok (.ifnull 15, 3) := by decide +kernel
theorem dX0_holds_9 : decode cX0_holds 9 = .ok (.aload_n 2, 1) := by decide +kernel
theorem dX0_holds_10 : decode cX0_holds 10 = .ok (.getfield 15, 3) := by decide +kernel
theorem dX0_holds_13 : decode cX0_holds 13 = .ok (.iload_n 1, 1) := by decide +kernel
theorem dX0_holds_14 : decode cX0_holds 14 = .ok (.if_icmp .ne 7, 3) := by decide +kernel
theorem dX0_holds_17 : decode cX0_holds 17 = .ok (.iconst 1, 1) := by decide +kernel
theorem dX0_holds_18 : decode cX0_holds 18 = .ok (.goto 4, 3) := by decide +kernel
theorem dX0_holds_21 : decode cX0_holds 21 = .ok (.iconst 0, 1) := by decide +kernel
theorem dX0_holds_22 : decode cX0_holds 22 = .ok (.ireturn, 1) := by decide +kernel
theorem dX0_begin_0 : decode cX0_begin 0 = .ok (.aload_n 0, 1) := by decide +kernel
theorem dX0_begin_1 : decode cX0_begin 1 = .ok (.aload_n 1, 1) := by decide +kernel
theorem dX0_begin_2 : decode cX0_begin 2 = .ok (.putfield 9, 3) := by decide +kernel
theorem dX0_begin_5 : decode cX0_begin 5 = .ok (.aload_n 0, 1) := by decide +kernel
theorem dX0_begin_6 : decode cX0_begin 6 = .ok (.aload_n 2, 1) := by decide +kernel
theorem dX0_begin_7 : decode cX0_begin 7 = .ok (.iload_n 3, 1) := by decide +kernel
theorem dX0_begin_8 : decode cX0_begin 8 = .ok (.invokevirtual 21, 3) := by decide +kernel
theorem dX0_begin_11 : decode cX0_begin 11 = .ok (.putfield 27, 3) := by decide +kernel
theorem dX0_begin_14 : decode cX0_begin 14 = .ok (.aload_n 0, 1) := by decide +kernel
theorem dX0_begin_15 : decode cX0_begin 15 = .ok (.iconst 0, 1) := by decide +kernel
theorem dX0_begin_16 : decode cX0_begin 16 = .ok (.putfield 30, 3) := by decide +kernel
theorem dX0_begin_19 : decode cX0_begin 19 = .ok (.aload_n 0, 1) := by decide +kernel
theorem dX0_begin_20 : decode cX0_begin 20 = .ok (.iload_n 3, 1) := by decide +kernel
theorem dX0_begin_21 : decode cX0_begin 21 = .ok (.iconst 2, 1) := by decide +kernel
theorem dX0_begin_22 : decode cX0_begin 22 = .ok (.iadd, 1) := by decide +kernel
theorem dX0_begin_23 : decode cX0_begin 23 = .ok (.putfield 33, 3) := by decide +kernel
theorem dX0_begin_26 : decode cX0_begin 26 = .ok (.iconst 0, 1) := by decide +kernel
theorem dX0_begin_27 : decode cX0_begin 27 = .ok (.istore 4, 2) := by decide +kernel
theorem dX0_begin_29 : decode cX0_begin 29 = .ok (.iconst 0, 1) := by decide +kernel
theorem dX0_begin_30 : decode cX0_begin 30 = .ok (.istore 5, 2) := by decide +kernel
theorem dX0_begin_32 : decode cX0_begin 32 = .ok (.iload 5, 2) := by decide +kernel
theorem dX0_begin_34 : decode cX0_begin 34 = .ok (.aload_n 2, 1) := by decide +kernel
theorem dX0_begin_35 : decode cX0_begin 35 = .ok (.getfield 36, 3) := by decide +kernel
theorem dX0_begin_38 : decode cX0_begin 38 = .ok (.arraylength, 1) := by decide +kernel
theorem dX0_begin_39 : decode cX0_begin 39 = .ok (.if_icmp .ge 60, 3) := by decide +kernel
theorem dX0_begin_42 : decode cX0_begin 42 = .ok (.aload_n 2, 1) := by decide +kernel
theorem dX0_begin_43 : decode cX0_begin 43 = .ok (.getfield 36, 3) := by decide +kernel
theorem dX0_begin_46 : decode cX0_begin 46 = .ok (.iload 5, 2) := by decide +kernel
theorem dX0_begin_48 : decode cX0_begin 48 = .ok (.iaload, 1) := by decide +kernel
theorem dX0_begin_49 : decode cX0_begin 49 = .ok (.istore 6, 2) := by decide +kernel
theorem dX0_begin_51 : decode cX0_begin 51 = .ok (.aload_n 0, 1) := by decide +kernel
theorem dX0_begin_52 : decode cX0_begin 52 = .ok (.dup, 1) := by decide +kernel
theorem dX0_begin_53 : decode cX0_begin 53 = .ok (.getfield 33, 3) := by decide +kernel
theorem dX0_begin_56 : decode cX0_begin 56 = .ok (.iload 6, 2) := by decide +kernel
theorem dX0_begin_58 : decode cX0_begin 58 = .ok (.iconst 3, 1) := by decide +kernel
theorem dX0_begin_59 : decode cX0_begin 59 = .ok (.invokestatic 40, 3) := by decide +kernel
theorem dX0_begin_62 : decode cX0_begin 62 = .ok (.iadd, 1) := by decide +kernel
theorem dX0_begin_63 : decode cX0_begin 63 = .ok (.putfield 33, 3) := by decide +kernel
theorem dX0_begin_66 : decode cX0_begin 66 = .ok (.iload 6, 2) := by decide +kernel
theorem dX0_begin_68 : decode cX0_begin 68 = .ok (.iconst 3, 1) := by decide +kernel
theorem dX0_begin_69 : decode cX0_begin 69 = .ok (.if_icmp .le 9, 3) := by decide +kernel
theorem dX0_begin_72 : decode cX0_begin 72 = .ok (.iinc 4 1, 3) := by decide +kernel
theorem dX0_begin_75 : decode cX0_begin 75 = .ok (.goto 18, 3) := by decide +kernel
theorem dX0_begin_78 : decode cX0_begin 78 = .ok (.aload_n 0, 1) := by decide +kernel
theorem dX0_begin_79 : decode cX0_begin 79 = .ok (.dup, 1) := by decide +kernel
theorem dX0_begin_80 : decode cX0_begin 80 = .ok (.getfield 30, 3) := by decide +kernel
theorem dX0_begin_83 : decode cX0_begin 83 = .ok (.aload_n 0, 1) := by decide +kernel
theorem dX0_begin_84 : decode cX0_begin 84 = .ok (.iload 5, 2) := by decide +kernel
theorem dX0_begin_86 : decode cX0_begin 86 = .ok (.invokevirtual 46, 3) := by decide +kernel
theorem dX0_begin_89 : decode cX0_begin 89 = .ok (.iadd, 1) := by decide +kernel
theorem dX0_begin_90 : decode cX0_begin 90 = .ok (.putfield 30, 3) := by decide +kernel
theorem dX0_begin_93 : decode cX0_begin 93 = .ok (.iinc 5 1, 3) := by decide +kernel
theorem dX0_begin_96 : decode cX0_begin 96 = .ok (.goto (-64), 3) := by decide +kernel
theorem dX0_begin_99 : decode cX0_begin 99 = .ok (.aload_n 0, 1) := by decide +kernel
theorem dX0_begin_100 : decode cX0_begin 100 = .ok (.aload_n 0, 1) := by decide +kernel
theorem dX0_begin_101 : decode cX0_begin 101 = .ok (.getfield 33, 3) := by decide +kernel
theorem dX0_begin_104 : decode cX0_begin 104 = .ok (.aload_n 0, 1) := by decide +kernel
theorem dX0_begin_105 : decode cX0_begin 105 = .ok (.getfield 30, 3) := by decide +kernel
theorem dX0_begin_108 : decode cX0_begin 108 = .ok (.bipush 20, 2) := by decide +kernel
theorem dX0_begin_110 : decode cX0_begin 110 = .ok (.iadd, 1) := by decide +kernel
theorem dX0_begin_111 : decode cX0_begin 111 = .ok (.iconst 1, 1) := by decide +kernel
theorem dX0_begin_112 : decode cX0_begin 112 = .ok (.isub, 1) := by decide +kernel
theorem dX0_begin_113 : decode cX0_begin 113 = .ok (.bipush 20, 2) := by decide +kernel
theorem dX0_begin_115 : decode cX0_begin 115 = .ok (.idiv, 1) := by decide +kernel
theorem dX0_begin_116 : decode cX0_begin 116 = .ok (.iadd, 1) := by decide +kernel
theorem dX0_begin_117 : decode cX0_begin 117 = .ok (.putfield 49, 3) := by decide +kernel
theorem dX0_begin_120 : decode cX0_begin 120 = .ok (.aload_n 1, 1) := by decide +kernel
theorem dX0_begin_121 : decode cX0_begin 121 = .ok (.iload_n 3, 1) := by decide +kernel
theorem dX0_begin_122 : decode cX0_begin 122 = .ok (.putfield 52, 3) := by decide +kernel
theorem dX0_begin_125 : decode cX0_begin 125 = .ok (.aload_n 1, 1) := by decide +kernel
theorem dX0_begin_126 : decode cX0_begin 126 = .ok (.iload 4, 2) := by decide +kernel
theorem dX0_begin_128 : decode cX0_begin 128 = .ok (.putfield 55, 3) := by decide +kernel
theorem dX0_begin_131 : decode cX0_begin 131 = .ok (.return_, 1) := by decide +kernel
theorem dX0_milkedBy_0 : decode cX0_milkedBy 0 = .ok (.aload_n 0, 1) := by decide +kernel
theorem dX0_milkedBy_1 : decode cX0_milkedBy 1 = .ok (.getfield 30, 3) := by decide +kernel
theorem dX0_milkedBy_4 : decode cX0_milkedBy 4 = .ok (.bipush 20, 2) := by decide +kernel
theorem dX0_milkedBy_6 : decode cX0_milkedBy 6 = .ok (.iconst 0, 1) := by decide +kernel
theorem dX0_milkedBy_7 : decode cX0_milkedBy 7 = .ok (.iload_n 1, 1) := by decide +kernel
theorem dX0_milkedBy_8 : decode cX0_milkedBy 8 = .ok (.aload_n 0, 1) := by decide +kernel
theorem dX0_milkedBy_9 : decode cX0_milkedBy 9 = .ok (.getfield 33, 3) := by decide +kernel
theorem dX0_milkedBy_12 : decode cX0_milkedBy 12 = .ok (.isub, 1) := by decide +kernel
theorem dX0_milkedBy_13 : decode cX0_milkedBy 13 = .ok (.invokestatic 58, 3) := by decide +kernel
theorem dX0_milkedBy_16 : decode cX0_milkedBy 16 = .ok (.imul, 1) := by decide +kernel
theorem dX0_milkedBy_17 : decode cX0_milkedBy 17 = .ok (.invokestatic 40, 3) := by decide +kernel
theorem dX0_milkedBy_20 : decode cX0_milkedBy 20 = .ok (.ireturn, 1) := by decide +kernel
theorem dX0_milkOfTeat_0 : decode cX0_milkOfTeat 0 = .ok (.aload_n 0, 1) := by decide +kernel
theorem dX0_milkOfTeat_1 : decode cX0_milkOfTeat 1 = .ok (.getfield 27, 3) := by decide +kernel
theorem dX0_milkOfTeat_4 : decode cX0_milkOfTeat 4 = .ok (.iconst 4, 1) := by decide +kernel
theorem dX0_milkOfTeat_5 : decode cX0_milkOfTeat 5 = .ok (.idiv, 1) := by decide +kernel
theorem dX0_milkOfTeat_6 : decode cX0_milkOfTeat 6 = .ok (.istore_n 2, 1) := by decide +kernel
theorem dX0_milkOfTeat_7 : decode cX0_milkOfTeat 7 = .ok (.iload_n 1, 1) := by decide +kernel
theorem dX0_milkOfTeat_8 : decode cX0_milkOfTeat 8 = .ok (.ifCond .ne 14, 3) := by decide +kernel
theorem dX0_milkOfTeat_11 : decode cX0_milkOfTeat 11 = .ok (.iload_n 2, 1) := by decide +kernel
theorem dX0_milkOfTeat_12 : decode cX0_milkOfTeat 12 = .ok (.aload_n 0, 1) := by decide +kernel
theorem dX0_milkOfTeat_13 : decode cX0_milkOfTeat 13 = .ok (.getfield 27, 3) := by decide +kernel
theorem dX0_milkOfTeat_16 : decode cX0_milkOfTeat 16 = .ok (.iconst 4, 1) := by decide +kernel
theorem dX0_milkOfTeat_17 : decode cX0_milkOfTeat 17 = .ok (.irem, 1) := by decide +kernel
theorem dX0_milkOfTeat_18 : decode cX0_milkOfTeat 18 = .ok (.iadd, 1) := by decide +kernel
theorem dX0_milkOfTeat_19 : decode cX0_milkOfTeat 19 = .ok (.goto 4, 3) := by decide +kernel
theorem dX0_milkOfTeat_22 : decode cX0_milkOfTeat 22 = .ok (.iload_n 2, 1) := by decide +kernel
theorem dX0_milkOfTeat_23 : decode cX0_milkOfTeat 23 = .ok (.ireturn, 1) := by decide +kernel
theorem dX1_init_0 : decode cX1_init 0 = .ok (.aload_n 0, 1) := by decide +kernel
theorem dX1_init_1 : decode cX1_init 1 = .ok (.invokespecial 3, 3) := by decide +kernel
theorem dX1_init_4 : decode cX1_init 4 = .ok (.aload_n 0, 1) := by decide +kernel
theorem dX1_init_5 : decode cX1_init 5 = .ok (.iconst 4, 1) := by decide +kernel
theorem dX1_init_6 : decode cX1_init 6 = .ok (.newarray .int, 2) := by decide +kernel
theorem dX1_init_8 : decode cX1_init 8 = .ok (.putfield 9, 3) := by decide +kernel
theorem dX1_init_11 : decode cX1_init 11 = .ok (.aload_n 0, 1) := by decide +kernel
theorem dX1_init_12 : decode cX1_init 12 = .ok (.iconst 5, 1) := by decide +kernel
theorem dX1_init_13 : decode cX1_init 13 = .ok (.newarray .int, 2) := by decide +kernel
theorem dX1_init_15 : decode cX1_init 15 = .ok (.putfield 15, 3) := by decide +kernel
theorem dX1_init_18 : decode cX1_init 18 = .ok (.aload_n 0, 1) := by decide +kernel
theorem dX1_init_19 : decode cX1_init 19 = .ok (.bipush (-9), 2) := by decide +kernel
theorem dX1_init_21 : decode cX1_init 21 = .ok (.putfield 18, 3) := by decide +kernel
theorem dX1_init_24 : decode cX1_init 24 = .ok (.aload_n 0, 1) := by decide +kernel
theorem dX1_init_25 : decode cX1_init 25 = .ok (.iload_n 1, 1) := by decide +kernel
theorem dX1_init_26 : decode cX1_init 26 = .ok (.putfield 22, 3) := by decide +kernel
theorem dX1_init_29 : decode cX1_init 29 = .ok (.aload_n 0, 1) := by decide +kernel
theorem dX1_init_30 : decode cX1_init 30 = .ok (.iload_n 2, 1) := by decide +kernel
theorem dX1_init_31 : decode cX1_init 31 = .ok (.putfield 25, 3) := by decide +kernel
theorem dX1_init_34 : decode cX1_init 34 = .ok (.aload_n 0, 1) := by decide +kernel
theorem dX1_init_35 : decode cX1_init 35 = .ok (.iload_n 3, 1) := by decide +kernel
theorem dX1_init_36 : decode cX1_init 36 = .ok (.putfield 28, 3) := by decide +kernel
theorem dX1_init_39 : decode cX1_init 39 = .ok (.aload_n 0, 1) := by decide +kernel
theorem dX1_init_40 : decode cX1_init 40 = .ok (.iload 4, 2) := by decide +kernel
theorem dX1_init_42 : decode cX1_init 42 = .ok (.putfield 31, 3) := by decide +kernel
theorem dX1_init_45 : decode cX1_init 45 = .ok (.aload_n 0, 1) := by decide +kernel
theorem dX1_init_46 : decode cX1_init 46 = .ok (.iload 5, 2) := by decide +kernel
theorem dX1_init_48 : decode cX1_init 48 = .ok (.putfield 34, 3) := by decide +kernel
theorem dX1_init_51 : decode cX1_init 51 = .ok (.return_, 1) := by decide +kernel
theorem dX1_milkAt_0 : decode cX1_milkAt 0 = .ok (.sipush 400, 3) := by decide +kernel
theorem dX1_milkAt_3 : decode cX1_milkAt 3 = .ok (.aload_n 0, 1) := by decide +kernel
theorem dX1_milkAt_4 : decode cX1_milkAt 4 = .ok (.getfield 37, 3) := by decide +kernel
theorem dX1_milkAt_7 : decode cX1_milkAt 7 = .ok (.aload_n 0, 1) := by decide +kernel
theorem dX1_milkAt_8 : decode cX1_milkAt 8 = .ok (.getfield 25, 3) := by decide +kernel
theorem dX1_milkAt_11 : decode cX1_milkAt 11 = .ok (.iload_n 1, 1) := by decide +kernel
theorem dX1_milkAt_12 : decode cX1_milkAt 12 = .ok (.aload_n 0, 1) := by decide +kernel
theorem dX1_milkAt_13 : decode cX1_milkAt 13 = .ok (.getfield 34, 3) := by decide +kernel
theorem dX1_milkAt_16 : decode cX1_milkAt 16 = .ok (.isub, 1) := by decide +kernel
theorem dX1_milkAt_17 : decode cX1_milkAt 17 = .ok (.imul, 1) := by decide +kernel
theorem dX1_milkAt_18 : decode cX1_milkAt 18 = .ok (.bipush 60, 2) := by decide +kernel
theorem dX1_milkAt_20 : decode cX1_milkAt 20 = .ok (.idiv, 1) := by decide +kernel
theorem dX1_milkAt_21 : decode cX1_milkAt 21 = .ok (.iadd, 1) := by decide +kernel
theorem dX1_milkAt_22 : decode cX1_milkAt 22 = .ok (.invokestatic 40, 3) := by decide +kernel
theorem dX1_milkAt_25 : decode cX1_milkAt 25 = .ok (.ireturn, 1) := by decide +kernel
theorem dX1_minutesTo_0 : decode cX1_minutesTo 0 = .ok (.aload_n 0, 1) := by decide +kernel
theorem dX1_minutesTo_1 : decode cX1_minutesTo 1 = .ok (.getfield 25, 3) := by decide +kernel
theorem dX1_minutesTo_4 : decode cX1_minutesTo 4 = .ok (.iconst 1, 1) := by decide +kernel
theorem dX1_minutesTo_5 : decode cX1_minutesTo 5 = .ok (.if_icmp .lt 12, 3) := by decide +kernel
theorem dX1_minutesTo_8 : decode cX1_minutesTo 8 = .ok (.iload_n 1, 1) := by decide +kernel
theorem dX1_minutesTo_9 : decode cX1_minutesTo 9 = .ok (.aload_n 0, 1) := by decide +kernel
theorem dX1_minutesTo_10 : decode cX1_minutesTo 10 = .ok (.iload_n 2, 1) := by decide +kernel
theorem dX1_minutesTo_11 : decode cX1_minutesTo 11 = .ok (.invokevirtual 46, 3) := by decide +kernel
theorem dX1_minutesTo_14 : decode cX1_minutesTo 14 = .ok (.if_icmp .gt 5, 3) := by decide +kernel
theorem dX1_minutesTo_17 : decode cX1_minutesTo 17 = .ok (.iconst 0, 1) := by decide +kernel
theorem dX1_minutesTo_18 : decode cX1_minutesTo 18 = .ok (.ireturn, 1) := by decide +kernel
theorem dX1_minutesTo_19 : decode cX1_minutesTo 19 = .ok (.iload_n 1, 1) := by decide +kernel
theorem dX1_minutesTo_20 : decode cX1_minutesTo 20 = .ok (.aload_n 0, 1) := by decide +kernel
theorem dX1_minutesTo_21 : decode cX1_minutesTo 21 = .ok (.getfield 37, 3) := by decide +kernel
theorem dX1_minutesTo_24 : decode cX1_minutesTo 24 = .ok (.isub, 1) := by decide +kernel
theorem dX1_minutesTo_25 : decode cX1_minutesTo 25 = .ok (.bipush 60, 2) := by decide +kernel
theorem dX1_minutesTo_27 : decode cX1_minutesTo 27 = .ok (.imul, 1) := by decide +kernel
theorem dX1_minutesTo_28 : decode cX1_minutesTo 28 = .ok (.aload_n 0, 1) := by decide +kernel
theorem dX1_minutesTo_29 : decode cX1_minutesTo 29 = .ok (.getfield 25, 3) := by decide +kernel
theorem dX1_minutesTo_32 : decode cX1_minutesTo 32 = .ok (.iadd, 1) := by decide +kernel
theorem dX1_minutesTo_33 : decode cX1_minutesTo 33 = .ok (.iconst 1, 1) := by decide +kernel
theorem dX1_minutesTo_34 : decode cX1_minutesTo 34 = .ok (.isub, 1) := by decide +kernel
theorem dX1_minutesTo_35 : decode cX1_minutesTo 35 = .ok (.aload_n 0, 1) := by decide +kernel
theorem dX1_minutesTo_36 : decode cX1_minutesTo 36 = .ok (.getfield 25, 3) := by decide +kernel
theorem dX1_minutesTo_39 : decode cX1_minutesTo 39 = .ok (.idiv, 1) := by decide +kernel
theorem dX1_minutesTo_40 : decode cX1_minutesTo 40 = .ok (.istore_n 3, 1) := by decide +kernel
theorem dX1_minutesTo_41 : decode cX1_minutesTo 41 = .ok (.iload_n 3, 1) := by decide +kernel
theorem dX1_minutesTo_42 : decode cX1_minutesTo 42 = .ok (.iload_n 2, 1) := by decide +kernel
theorem dX1_minutesTo_43 : decode cX1_minutesTo 43 = .ok (.aload_n 0, 1) := by decide +kernel
theorem dX1_minutesTo_44 : decode cX1_minutesTo 44 = .ok (.getfield 34, 3) := by decide +kernel
theorem dX1_minutesTo_47 : decode cX1_minutesTo 47 = .ok (.isub, 1) := by decide +kernel
theorem dX1_minutesTo_48 : decode cX1_minutesTo 48 = .ok (.isub, 1) := by decide +kernel
theorem dX1_minutesTo_49 : decode cX1_minutesTo 49 = .ok (.ireturn, 1) := by decide +kernel
theorem dX1_hasRightAt_0 : decode cX1_hasRightAt 0 = .ok (.aload_n 0, 1) := by decide +kernel
theorem dX1_hasRightAt_1 : decode cX1_hasRightAt 1 = .ok (.getfield 18, 3) := by decide +kernel
theorem dX1_hasRightAt_4 : decode cX1_hasRightAt 4 = .ok (.bipush (-9), 2) := by decide +kernel
theorem dX1_hasRightAt_6 : decode cX1_hasRightAt 6 = .ok (.if_icmp .eq 16, 3) := by decide +kernel
theorem dX1_hasRightAt_9 : decode cX1_hasRightAt 9 = .ok (.iload_n 1, 1) := by decide +kernel
theorem dX1_hasRightAt_10 : decode cX1_hasRightAt 10 = .ok (.aload_n 0, 1) := by decide +kernel
theorem dX1_hasRightAt_11 : decode cX1_hasRightAt 11 = .ok (.getfield 18, 3) := by decide +kernel
theorem dX1_hasRightAt_14 : decode cX1_hasRightAt 14 = .ok (.isub, 1) := by decide +kernel
theorem dX1_hasRightAt_15 : decode cX1_hasRightAt 15 = .ok (.aload_n 0, 1) := by decide +kernel
theorem dX1_hasRightAt_16 : decode cX1_hasRightAt 16 = .ok (.getfield 28, 3) := by decide +kernel
theorem dX1_hasRightAt_19 : decode cX1_hasRightAt 19 = .ok (.if_icmp .lt 7, 3) := by decide +kernel
theorem dX1_hasRightAt_22 : decode cX1_hasRightAt 22 = .ok (.iconst 1, 1) := by decide +kernel
theorem dX1_hasRightAt_23 : decode cX1_hasRightAt 23 = .ok (.goto 4, 3) := by decide +kernel
theorem dX1_hasRightAt_26 : decode cX1_hasRightAt 26 = .ok (.iconst 0, 1) := by decide +kernel
theorem dX1_hasRightAt_27 : decode cX1_hasRightAt 27 = .ok (.ireturn, 1) := by decide +kernel
theorem dX1_isWithheldAt_0 : decode cX1_isWithheldAt 0 = .ok (.aload_n 0, 1) := by decide +kernel
theorem dX1_isWithheldAt_1 : decode cX1_isWithheldAt 1 = .ok (.getfield 22, 3) := by decide +kernel
theorem dX1_isWithheldAt_4 : decode cX1_isWithheldAt 4 = .ok (.iconst 2, 1) := by decide +kernel
theorem dX1_isWithheldAt_5 : decode cX1_isWithheldAt 5 = .ok (.if_icmp .eq 11, 3) := by decide +kernel
theorem dX1_isWithheldAt_8 : decode cX1_isWithheldAt 8 = .ok (.aload_n 0, 1) := by decide +kernel
theorem dX1_isWithheldAt_9 : decode cX1_isWithheldAt 9 = .ok (.getfield 50, 3) := by decide +kernel
theorem dX1_isWithheldAt_12 : decode cX1_isWithheldAt 12 = .ok (.iload_n 1, 1) := by decide +kernel
theorem dX1_isWithheldAt_13 : decode cX1_isWithheldAt 13 = .ok (.if_icmp .le 7, 3) := by decide +kernel
theorem dX1_isWithheldAt_16 : decode cX1_isWithheldAt 16 = .ok (.iconst 1, 1) := by decide +kernel
theorem dX1_isWithheldAt_17 : decode cX1_isWithheldAt 17 = .ok (.goto 4, 3) := by decide +kernel
theorem dX1_isWithheldAt_20 : decode cX1_isWithheldAt 20 = .ok (.iconst 0, 1) := by decide +kernel
theorem dX1_isWithheldAt_21 : decode cX1_isWithheldAt 21 = .ok (.ireturn, 1) := by decide +kernel
theorem dX1_fedOn_0 : decode cX1_fedOn 0 = .ok (.aload_n 0, 1) := by decide +kernel
theorem dX1_fedOn_1 : decode cX1_fedOn 1 = .ok (.getfield 53, 3) := by decide +kernel
theorem dX1_fedOn_4 : decode cX1_fedOn 4 = .ok (.iload_n 1, 1) := by decide +kernel
theorem dX1_fedOn_5 : decode cX1_fedOn 5 = .ok (.if_icmp .ne 10, 3) := by decide +kernel
theorem dX1_fedOn_8 : decode cX1_fedOn 8 = .ok (.aload_n 0, 1) := by decide +kernel
theorem dX1_fedOn_9 : decode cX1_fedOn 9 = .ok (.getfield 56, 3) := by decide +kernel
theorem dX1_fedOn_12 : decode cX1_fedOn 12 = .ok (.goto 4, 3) := by decide +kernel
theorem dX1_fedOn_15 : decode cX1_fedOn 15 = .ok (.iconst 0, 1) := by decide +kernel
theorem dX1_fedOn_16 : decode cX1_fedOn 16 = .ok (.ireturn, 1) := by decide +kernel
theorem dX1_feedFor_0 : decode cX1_feedFor 0 = .ok (.aload_n 0, 1) := by decide +kernel
theorem dX1_feedFor_1 : decode cX1_feedFor 1 = .ok (.iload_n 2, 1) := by decide +kernel
theorem dX1_feedFor_2 : decode cX1_feedFor 2 = .ok (.invokevirtual 59, 3) := by decide +kernel
theorem dX1_feedFor_5 : decode cX1_feedFor 5 = .ok (.istore_n 3, 1) := by decide +kernel
theorem dX1_feedFor_6 : decode cX1_feedFor 6 = .ok (.bipush 10, 2) := by decide +kernel
theorem dX1_feedFor_8 : decode cX1_feedFor 8 = .ok (.iload_n 1, 1) := by decide +kernel
theorem dX1_feedFor_9 : decode cX1_feedFor 9 = .ok (.imul, 1) := by decide +kernel
theorem dX1_feedFor_10 : decode cX1_feedFor 10 = .ok (.aload_n 0, 1) := by decide +kernel
theorem dX1_feedFor_11 : decode cX1_feedFor 11 = .ok (.getfield 31, 3) := by decide +kernel
theorem dX1_feedFor_14 : decode cX1_feedFor 14 = .ok (.iload_n 3, 1) := by decide +kernel
theorem dX1_feedFor_15 : decode cX1_feedFor 15 = .ok (.isub, 1) := by decide +kernel
theorem dX1_feedFor_16 : decode cX1_feedFor 16 = .ok (.invokestatic 40, 3) := by decide +kernel
theorem dX1_feedFor_19 : decode cX1_feedFor 19 = .ok (.istore 4, 2) := by decide +kernel
theorem dX1_feedFor_21 : decode cX1_feedFor 21 = .ok (.aload_n 0, 1) := by decide +kernel
theorem dX1_feedFor_22 : decode cX1_feedFor 22 = .ok (.iload_n 2, 1) := by decide +kernel
theorem dX1_feedFor_23 : decode cX1_feedFor 23 = .ok (.putfield 53, 3) := by decide +kernel
theorem dX1_feedFor_26 : decode cX1_feedFor 26 = .ok (.aload_n 0, 1) := by decide +kernel
theorem dX1_feedFor_27 : decode cX1_feedFor 27 = .ok (.iload_n 3, 1) := by decide +kernel
theorem dX1_feedFor_28 : decode cX1_feedFor 28 = .ok (.iload 4, 2) := by decide +kernel
theorem dX1_feedFor_30 : decode cX1_feedFor 30 = .ok (.iadd, 1) := by decide +kernel
theorem dX1_feedFor_31 : decode cX1_feedFor 31 = .ok (.putfield 56, 3) := by decide +kernel
theorem dX1_feedFor_34 : decode cX1_feedFor 34 = .ok (.iload 4, 2) := by decide +kernel
theorem dX1_feedFor_36 : decode cX1_feedFor 36 = .ok (.ireturn, 1) := by decide +kernel
theorem dX1_isAlarming_0 : decode cX1_isAlarming 0 = .ok (.aload_n 0, 1) := by decide +kernel
theorem dX1_isAlarming_1 : decode cX1_isAlarming 1 = .ok (.getfield 62, 3) := by decide +kernel
theorem dX1_isAlarming_4 : decode cX1_isAlarming 4 = .ok (.iconst 3, 1) := by decide +kernel
theorem dX1_isAlarming_5 : decode cX1_isAlarming 5 = .ok (.if_icmp .ge 5, 3) := by decide +kernel
theorem dX1_isAlarming_8 : decode cX1_isAlarming 8 = .ok (.iconst 0, 1) := by decide +kernel
theorem dX1_isAlarming_9 : decode cX1_isAlarming 9 = .ok (.ireturn, 1) := by decide +kernel
theorem dX1_isAlarming_10 : decode cX1_isAlarming 10 = .ok (.iconst 0, 1) := by decide +kernel
theorem dX1_isAlarming_11 : decode cX1_isAlarming 11 = .ok (.istore_n 2, 1) := by decide +kernel
theorem dX1_isAlarming_12 : decode cX1_isAlarming 12 = .ok (.iconst 0, 1) := by decide +kernel
theorem dX1_isAlarming_13 : decode cX1_isAlarming 13 = .ok (.istore_n 3, 1) := by decide +kernel
theorem dX1_isAlarming_14 : decode cX1_isAlarming 14 = .ok (.iload_n 3, 1) := by decide +kernel
theorem dX1_isAlarming_15 : decode cX1_isAlarming 15 = .ok (.aload_n 0, 1) := by decide +kernel
theorem dX1_isAlarming_16 : decode cX1_isAlarming 16 = .ok (.getfield 15, 3) := by decide +kernel
theorem dX1_isAlarming_19 : decode cX1_isAlarming 19 = .ok (.arraylength, 1) := by decide +kernel
theorem dX1_isAlarming_20 : decode cX1_isAlarming 20 = .ok (.if_icmp .ge 18, 3) := by decide +kernel
theorem dX1_isAlarming_23 : decode cX1_isAlarming 23 = .ok (.iload_n 2, 1) := by decide +kernel
theorem dX1_isAlarming_24 : decode cX1_isAlarming 24 = .ok (.aload_n 0, 1) := by decide +kernel
theorem dX1_isAlarming_25 : decode cX1_isAlarming 25 = .ok (.getfield 15, 3) := by decide +kernel
theorem dX1_isAlarming_28 : decode cX1_isAlarming 28 = .ok (.iload_n 3, 1) := by decide +kernel
theorem dX1_isAlarming_29 : decode cX1_isAlarming 29 = .ok (.iaload, 1) := by decide +kernel
theorem dX1_isAlarming_30 : decode cX1_isAlarming 30 = .ok (.iadd, 1) := by decide +kernel
theorem dX1_isAlarming_31 : decode cX1_isAlarming 31 = .ok (.istore_n 2, 1) := by decide +kernel
theorem dX1_isAlarming_32 : decode cX1_isAlarming 32 = .ok (.iinc 3 1, 3) := by decide +kernel
theorem dX1_isAlarming_35 : decode cX1_isAlarming 35 = .ok (.goto (-21), 3) := by decide +kernel
theorem dX1_isAlarming_38 : decode cX1_isAlarming 38 = .ok (.bipush 10, 2) := by decide +kernel
theorem dX1_isAlarming_40 : decode cX1_isAlarming 40 = .ok (.iload_n 1, 1) := by decide +kernel
theorem dX1_isAlarming_41 : decode cX1_isAlarming 41 = .ok (.imul, 1) := by decide +kernel
theorem dX1_isAlarming_42 : decode cX1_isAlarming 42 = .ok (.aload_n 0, 1) := by decide +kernel
theorem dX1_isAlarming_43 : decode cX1_isAlarming 43 = .ok (.getfield 62, 3) := by decide +kernel
theorem dX1_isAlarming_46 : decode cX1_isAlarming 46 = .ok (.iconst 5, 1) := by decide +kernel
theorem dX1_isAlarming_47 : decode cX1_isAlarming 47 = .ok (.invokestatic 40, 3) := by decide +kernel
theorem dX1_isAlarming_50 : decode cX1_isAlarming 50 = .ok (.imul, 1) := by decide +kernel
theorem dX1_isAlarming_51 : decode cX1_isAlarming 51 = .ok (.bipush 12, 2) := by decide +kernel
theorem dX1_isAlarming_53 : decode cX1_isAlarming 53 = .ok (.iload_n 2, 1) := by decide +kernel
theorem dX1_isAlarming_54 : decode cX1_isAlarming 54 = .ok (.imul, 1) := by decide +kernel
theorem dX1_isAlarming_55 : decode cX1_isAlarming 55 = .ok (.if_icmp .le 7, 3) := by decide +kernel
theorem dX1_isAlarming_58 : decode cX1_isAlarming 58 = .ok (.iconst 1, 1) := by decide +kernel
theorem dX1_isAlarming_59 : decode cX1_isAlarming 59 = .ok (.goto 4, 3) := by decide +kernel
theorem dX1_isAlarming_62 : decode cX1_isAlarming 62 = .ok (.iconst 0, 1) := by decide +kernel
theorem dX1_isAlarming_63 : decode cX1_isAlarming 63 = .ok (.ireturn, 1) := by decide +kernel
theorem dX1_keepReading_0 : decode cX1_keepReading 0 = .ok (.aload_n 0, 1) := by decide +kernel
theorem dX1_keepReading_1 : decode cX1_keepReading 1 = .ok (.getfield 62, 3) := by decide +kernel
theorem dX1_keepReading_4 : decode cX1_keepReading 4 = .ok (.iconst 5, 1) := by decide +kernel
theorem dX1_keepReading_5 : decode cX1_keepReading 5 = .ok (.irem, 1) := by decide +kernel
theorem dX1_keepReading_6 : decode cX1_keepReading 6 = .ok (.istore_n 2, 1) := by decide +kernel
theorem dX1_keepReading_7 : decode cX1_keepReading 7 = .ok (.iload_n 2, 1) := by decide +kernel
theorem dX1_keepReading_8 : decode cX1_keepReading 8 = .ok (.ifCond .lt 19, 3) := by decide +kernel
theorem dX1_keepReading_11 : decode cX1_keepReading 11 = .ok (.iload_n 2, 1) := by decide +kernel
theorem dX1_keepReading_12 : decode cX1_keepReading 12 = .ok (.aload_n 0, 1) := by decide +kernel
theorem dX1_keepReading_13 : decode cX1_keepReading 13 = .ok (.getfield 15, 3) := by decide +kernel
theorem dX1_keepReading_16 : decode cX1_keepReading 16 = .ok (.arraylength, 1) := by decide +kernel
theorem dX1_keepReading_17 : decode cX1_keepReading 17 = .ok (.if_icmp .ge 10, 3) := by decide +kernel
theorem dX1_keepReading_20 : decode cX1_keepReading 20 = .ok (.aload_n 0, 1) := by decide +kernel
theorem dX1_keepReading_21 : decode cX1_keepReading 21 = .ok (.getfield 15, 3) := by decide +kernel
theorem dX1_keepReading_24 : decode cX1_keepReading 24 = .ok (.iload_n 2, 1) := by decide +kernel
theorem dX1_keepReading_25 : decode cX1_keepReading 25 = .ok (.iload_n 1, 1) := by decide +kernel
theorem dX1_keepReading_26 : decode cX1_keepReading 26 = .ok (.iastore, 1) := by decide +kernel
theorem dX1_keepReading_27 : decode cX1_keepReading 27 = .ok (.aload_n 0, 1) := by decide +kernel
theorem dX1_keepReading_28 : decode cX1_keepReading 28 = .ok (.dup, 1) := by decide +kernel
theorem dX1_keepReading_29 : decode cX1_keepReading 29 = .ok (.getfield 62, 3) := by decide +kernel
theorem dX1_keepReading_32 : decode cX1_keepReading 32 = .ok (.iconst 1, 1) := by decide +kernel
theorem dX1_keepReading_33 : decode cX1_keepReading 33 = .ok (.iadd, 1) := by decide +kernel
theorem dX1_keepReading_34 : decode cX1_keepReading 34 = .ok (.putfield 62, 3) := by decide +kernel
theorem dX1_keepReading_37 : decode cX1_keepReading 37 = .ok (.return_, 1) := by decide +kernel
theorem dX1_beginMilking_0 : decode cX1_beginMilking 0 = .ok (.aload_n 0, 1) := by decide +kernel
theorem dX1_beginMilking_1 : decode cX1_beginMilking 1 = .ok (.iload_n 1, 1) := by decide +kernel
theorem dX1_beginMilking_2 : decode cX1_beginMilking 2 = .ok (.putfield 18, 3) := by decide +kernel
theorem dX1_beginMilking_5 : decode cX1_beginMilking 5 = .ok (.aload_n 0, 1) := by decide +kernel
theorem dX1_beginMilking_6 : decode cX1_beginMilking 6 = .ok (.iload_n 1, 1) := by decide +kernel
theorem dX1_beginMilking_7 : decode cX1_beginMilking 7 = .ok (.putfield 34, 3) := by decide +kernel
theorem dX1_beginMilking_10 : decode cX1_beginMilking 10 = .ok (.aload_n 0, 1) := by decide +kernel
theorem dX1_beginMilking_11 : decode cX1_beginMilking 11 = .ok (.iconst 0, 1) := by decide +kernel
theorem dX1_beginMilking_12 : decode cX1_beginMilking 12 = .ok (.putfield 37, 3) := by decide +kernel
theorem dX1_beginMilking_15 : decode cX1_beginMilking 15 = .ok (.iconst 0, 1) := by decide +kernel
theorem dX1_beginMilking_16 : decode cX1_beginMilking 16 = .ok (.istore_n 2, 1) := by decide +kernel
theorem dX1_beginMilking_17 : decode cX1_beginMilking 17 = .ok (.iload_n 2, 1) := by decide +kernel
theorem dX1_beginMilking_18 : decode cX1_beginMilking 18 = .ok (.aload_n 0, 1) := by decide +kernel
theorem dX1_beginMilking_19 : decode cX1_beginMilking 19 = .ok (.getfield 9, 3) := by decide +kernel
theorem dX1_beginMilking_22 : decode cX1_beginMilking 22 = .ok (.arraylength, 1) := by decide +kernel
theorem dX1_beginMilking_23 : decode cX1_beginMilking 23 = .ok (.if_icmp .ge 16, 3) := by decide +kernel
theorem dX1_beginMilking_26 : decode cX1_beginMilking 26 = .ok (.aload_n 0, 1) := by decide +kernel
theorem dX1_beginMilking_27 : decode cX1_beginMilking 27 = .ok (.getfield 9, 3) := by decide +kernel
theorem dX1_beginMilking_30 : decode cX1_beginMilking 30 = .ok (.iload_n 2, 1) := by decide +kernel
theorem dX1_beginMilking_31 : decode cX1_beginMilking 31 = .ok (.iconst 0, 1) := by decide +kernel
theorem dX1_beginMilking_32 : decode cX1_beginMilking 32 = .ok (.iastore, 1) := by decide +kernel
theorem dX1_beginMilking_33 : decode cX1_beginMilking 33 = .ok (.iinc 2 1, 3) := by decide +kernel
theorem dX1_beginMilking_36 : decode cX1_beginMilking 36 = .ok (.goto (-19), 3) := by decide +kernel
theorem dX1_beginMilking_39 : decode cX1_beginMilking 39 = .ok (.return_, 1) := by decide +kernel
theorem dX2_init_0 : decode cX2_init 0 = .ok (.aload_n 0, 1) := by decide +kernel
theorem dX2_init_1 : decode cX2_init 1 = .ok (.invokespecial 3, 3) := by decide +kernel
theorem dX2_init_4 : decode cX2_init 4 = .ok (.aload_n 0, 1) := by decide +kernel
theorem dX2_init_5 : decode cX2_init 5 = .ok (.bipush 12, 2) := by decide +kernel
theorem dX2_init_7 : decode cX2_init 7 = .ok (.anewarray 9, 3) := by decide +kernel
theorem dX2_init_10 : decode cX2_init 10 = .ok (.putfield 11, 3) := by decide +kernel
theorem dX2_init_13 : decode cX2_init 13 = .ok (.return_, 1) := by decide +kernel
theorem dX2_at_0 : decode cX2_at 0 = .ok (.iload_n 1, 1) := by decide +kernel
theorem dX2_at_1 : decode cX2_at 1 = .ok (.ifCond .lt 29, 3) := by decide +kernel
theorem dX2_at_4 : decode cX2_at 4 = .ok (.iload_n 1, 1) := by decide +kernel
theorem dX2_at_5 : decode cX2_at 5 = .ok (.aload_n 0, 1) := by decide +kernel
theorem dX2_at_6 : decode cX2_at 6 = .ok (.getfield 17, 3) := by decide +kernel
theorem dX2_at_9 : decode cX2_at 9 = .ok (.if_icmp .ge 21, 3) := by decide +kernel
theorem dX2_at_12 : decode cX2_at 12 = .ok (.iload_n 1, 1) := by decide +kernel
theorem dX2_at_13 : decode cX2_at 13 = .ok (.aload_n 0, 1) := by decide +kernel
theorem dX2_at_14 : decode cX2_at 14 = .ok (.getfield 11, 3) := by decide +kernel
theorem dX2_at_17 : decode cX2_at 17 = .ok (.arraylength, 1) := by decide +kernel
theorem dX2_at_18 : decode cX2_at 18 = .ok (.if_icmp .ge 12, 3) := by decide +kernel
theorem dX2_at_21 : decode cX2_at 21 = .ok (.aload_n 0, 1) := by decide +kernel
theorem dX2_at_22 : decode cX2_at 22 = .ok (.getfield 11, 3) := by decide +kernel
theorem dX2_at_25 : decode cX2_at 25 = .ok (.iload_n 1, 1) := by decide +kernel
theorem dX2_at_26 : decode cX2_at 26 = .ok (.aaload, 1) := by decide +kernel
theorem dX2_at_27 : decode cX2_at 27 = .ok (.goto 4, 3) := by decide +kernel
theorem dX2_at_30 : decode cX2_at 30 = .ok (.aconst_null, 1) := by decide +kernel
theorem dX2_at_31 : decode cX2_at 31 = .ok (.areturn, 1) := by decide +kernel
theorem dX2_placeOf_0 : decode cX2_placeOf 0 = .ok (.iconst 0, 1) := by decide +kernel
theorem dX2_placeOf_1 : decode cX2_placeOf 1 = .ok (.istore_n 2, 1) := by decide +kernel
theorem dX2_placeOf_2 : decode cX2_placeOf 2 = .ok (.iload_n 2, 1) := by decide +kernel
theorem dX2_placeOf_3 : decode cX2_placeOf 3 = .ok (.aload_n 0, 1) := by decide +kernel
theorem dX2_placeOf_4 : decode cX2_placeOf 4 = .ok (.getfield 17, 3) := by decide +kernel
theorem dX2_placeOf_7 : decode cX2_placeOf 7 = .ok (.if_icmp .ge 29, 3) := by decide +kernel
theorem dX2_placeOf_10 : decode cX2_placeOf 10 = .ok (.aload_n 0, 1) := by decide +kernel
theorem dX2_placeOf_11 : decode cX2_placeOf 11 = .ok (.iload_n 2, 1) := by decide +kernel
theorem dX2_placeOf_12 : decode cX2_placeOf 12 = .ok (.invokevirtual 21, 3) := by decide +kernel
theorem dX2_placeOf_15 : decode cX2_placeOf 15 = .ok (.astore_n 3, 1) := by decide +kernel
theorem dX2_placeOf_16 : decode cX2_placeOf 16 = .ok (.aload_n 3, 1) := by decide +kernel
theorem dX2_placeOf_17 : decode cX2_placeOf 17 = .ok (.ifnull 13, 3) := by decide +kernel
theorem dX2_placeOf_20 : decode cX2_placeOf 20 = .ok (.aload_n 3, 1) := by decide +kernel
theorem dX2_placeOf_21 : decode cX2_placeOf 21 = .ok (.getfield 25, 3) := by decide +kernel
theorem dX2_placeOf_24 : decode cX2_placeOf 24 = .ok (.iload_n 1, 1) := by decide +kernel
theorem dX2_placeOf_25 : decode cX2_placeOf 25 = .ok (.if_icmp .ne 5, 3) := by decide +kernel
theorem dX2_placeOf_28 : decode cX2_placeOf 28 = .ok (.iload_n 2, 1) := by decide +kernel
theorem dX2_placeOf_29 : decode cX2_placeOf 29 = .ok (.ireturn, 1) := by decide +kernel
theorem dX2_placeOf_30 : decode cX2_placeOf 30 = .ok (.iinc 2 1, 3) := by decide +kernel
theorem dX2_placeOf_33 : decode cX2_placeOf 33 = .ok (.goto (-31), 3) := by decide +kernel
theorem dX2_placeOf_36 : decode cX2_placeOf 36 = .ok (.bipush (-9), 2) := by decide +kernel
theorem dX2_placeOf_38 : decode cX2_placeOf 38 = .ok (.ireturn, 1) := by decide +kernel
theorem dX2_addLast_0 : decode cX2_addLast 0 = .ok (.aload_n 0, 1) := by decide +kernel
theorem dX2_addLast_1 : decode cX2_addLast 1 = .ok (.getfield 17, 3) := by decide +kernel
theorem dX2_addLast_4 : decode cX2_addLast 4 = .ok (.ifCond .lt 35, 3) := by decide +kernel
theorem dX2_addLast_7 : decode cX2_addLast 7 = .ok (.aload_n 0, 1) := by decide +kernel
theorem dX2_addLast_8 : decode cX2_addLast 8 = .ok (.getfield 17, 3) := by decide +kernel
theorem dX2_addLast_11 : decode cX2_addLast 11 = .ok (.aload_n 0, 1) := by decide +kernel
theorem dX2_addLast_12 : decode cX2_addLast 12 = .ok (.getfield 11, 3) := by decide +kernel
theorem dX2_addLast_15 : decode cX2_addLast 15 = .ok (.arraylength, 1) := by decide +kernel
theorem dX2_addLast_16 : decode cX2_addLast 16 = .ok (.if_icmp .ge 23, 3) := by decide +kernel
theorem dX2_addLast_19 : decode cX2_addLast 19 = .ok (.aload_n 0, 1) := by decide +kernel
theorem dX2_addLast_20 : decode cX2_addLast 20 = .ok (.getfield 11, 3) := by decide +kernel
theorem dX2_addLast_23 : decode cX2_addLast 23 = .ok (.aload_n 0, 1) := by decide +kernel
theorem dX2_addLast_24 : decode cX2_addLast 24 = .ok (.getfield 17, 3) := by decide +kernel
theorem dX2_addLast_27 : decode cX2_addLast 27 = .ok (.aload_n 1, 1) := by decide +kernel
theorem dX2_addLast_28 : decode cX2_addLast 28 = .ok (.aastore, 1) := by decide +kernel
theorem dX2_addLast_29 : decode cX2_addLast 29 = .ok (.aload_n 0, 1) := by decide +kernel
theorem dX2_addLast_30 : decode cX2_addLast 30 = .ok (.dup, 1) := by decide +kernel
theorem dX2_addLast_31 : decode cX2_addLast 31 = .ok (.getfield 17, 3) := by decide +kernel
theorem dX2_addLast_34 : decode cX2_addLast 34 = .ok (.iconst 1, 1) := by decide +kernel
theorem dX2_addLast_35 : decode cX2_addLast 35 = .ok (.iadd, 1) := by decide +kernel
theorem dX2_addLast_36 : decode cX2_addLast 36 = .ok (.putfield 17, 3) := by decide +kernel
theorem dX2_addLast_39 : decode cX2_addLast 39 = .ok (.return_, 1) := by decide +kernel
theorem dX2_takeNext_0 : decode cX2_takeNext 0 = .ok (.aload_n 0, 1) := by decide +kernel
theorem dX2_takeNext_1 : decode cX2_takeNext 1 = .ok (.iload_n 1, 1) := by decide +kernel
theorem dX2_takeNext_2 : decode cX2_takeNext 2 = .ok (.invokevirtual 28, 3) := by decide +kernel
theorem dX2_takeNext_5 : decode cX2_takeNext 5 = .ok (.istore_n 2, 1) := by decide +kernel
theorem dX2_takeNext_6 : decode cX2_takeNext 6 = .ok (.aload_n 0, 1) := by decide +kernel
theorem dX2_takeNext_7 : decode cX2_takeNext 7 = .ok (.iload_n 2, 1) := by decide +kernel
theorem dX2_takeNext_8 : decode cX2_takeNext 8 = .ok (.invokevirtual 21, 3) := by decide +kernel
theorem dX2_takeNext_11 : decode cX2_takeNext 11 = .ok (.astore_n 3, 1) := by decide +kernel
theorem dX2_takeNext_12 : decode cX2_takeNext 12 = .ok (.aload_n 3, 1) := by decide +kernel
theorem dX2_takeNext_13 : decode cX2_takeNext 13 = .ok (.ifnull 8, 3) := by decide +kernel
theorem dX2_takeNext_16 : decode cX2_takeNext 16 = .ok (.aload_n 0, 1) := by decide +kernel
theorem dX2_takeNext_17 : decode cX2_takeNext 17 = .ok (.iload_n 2, 1) := by decide +kernel
theorem dX2_takeNext_18 : decode cX2_takeNext 18 = .ok (.invokevirtual 32, 3) := by decide +kernel
theorem dX2_takeNext_21 : decode cX2_takeNext 21 = .ok (.aload_n 3, 1) := by decide +kernel
theorem dX2_takeNext_22 : decode cX2_takeNext 22 = .ok (.areturn, 1) := by decide +kernel
theorem dX2_choose_0 : decode cX2_choose 0 = .ok (.iconst 0, 1) := by decide +kernel
theorem dX2_choose_1 : decode cX2_choose 1 = .ok (.istore_n 2, 1) := by decide +kernel
theorem dX2_choose_2 : decode cX2_choose 2 = .ok (.iload_n 2, 1) := by decide +kernel
theorem dX2_choose_3 : decode cX2_choose 3 = .ok (.aload_n 0, 1) := by decide +kernel
theorem dX2_choose_4 : decode cX2_choose 4 = .ok (.getfield 17, 3) := by decide +kernel
theorem dX2_choose_7 : decode cX2_choose 7 = .ok (.if_icmp .ge 39, 3) := by decide +kernel
theorem dX2_choose_10 : decode cX2_choose 10 = .ok (.aload_n 0, 1) := by decide +kernel
theorem dX2_choose_11 : decode cX2_choose 11 = .ok (.iload_n 2, 1) := by decide +kernel
theorem dX2_choose_12 : decode cX2_choose 12 = .ok (.invokevirtual 21, 3) := by decide +kernel
theorem dX2_choose_15 : decode cX2_choose 15 = .ok (.astore_n 3, 1) := by decide +kernel
theorem dX2_choose_16 : decode cX2_choose 16 = .ok (.aload_n 3, 1) := by decide +kernel
theorem dX2_choose_17 : decode cX2_choose 17 = .ok (.ifnull 23, 3) := by decide +kernel
theorem dX2_choose_20 : decode cX2_choose 20 = .ok (.aload_n 3, 1) := by decide +kernel
theorem dX2_choose_21 : decode cX2_choose 21 = .ok (.getfield 36, 3) := by decide +kernel
theorem dX2_choose_24 : decode cX2_choose 24 = .ok (.ifCond .eq 16, 3) := by decide +kernel
theorem dX2_choose_27 : decode cX2_choose 27 = .ok (.iload_n 1, 1) := by decide +kernel
theorem dX2_choose_28 : decode cX2_choose 28 = .ok (.aload_n 3, 1) := by decide +kernel
theorem dX2_choose_29 : decode cX2_choose 29 = .ok (.getfield 40, 3) := by decide +kernel
theorem dX2_choose_32 : decode cX2_choose 32 = .ok (.isub, 1) := by decide +kernel
theorem dX2_choose_33 : decode cX2_choose 33 = .ok (.bipush 30, 2) := by decide +kernel
theorem dX2_choose_35 : decode cX2_choose 35 = .ok (.if_icmp .lt 5, 3) := by decide +kernel
theorem dX2_choose_38 : decode cX2_choose 38 = .ok (.iload_n 2, 1) := by decide +kernel
theorem dX2_choose_39 : decode cX2_choose 39 = .ok (.ireturn, 1) := by decide +kernel
theorem dX2_choose_40 : decode cX2_choose 40 = .ok (.iinc 2 1, 3) := by decide +kernel
theorem dX2_choose_43 : decode cX2_choose 43 = .ok (.goto (-41), 3) := by decide +kernel
theorem dX2_choose_46 : decode cX2_choose 46 = .ok (.iconst 0, 1) := by decide +kernel
theorem dX2_choose_47 : decode cX2_choose 47 = .ok (.ireturn, 1) := by decide +kernel
theorem dX2_closeUp_0 : decode cX2_closeUp 0 = .ok (.iconst 0, 1) := by decide +kernel
theorem dX2_closeUp_1 : decode cX2_closeUp 1 = .ok (.iload_n 1, 1) := by decide +kernel
theorem dX2_closeUp_2 : decode cX2_closeUp 2 = .ok (.invokestatic 43, 3) := by decide +kernel
theorem dX2_closeUp_5 : decode cX2_closeUp 5 = .ok (.istore_n 2, 1) := by decide +kernel
theorem dX2_closeUp_6 : decode cX2_closeUp 6 = .ok (.iload_n 2, 1) := by decide +kernel
theorem dX2_closeUp_7 : decode cX2_closeUp 7 = .ok (.iconst 1, 1) := by decide +kernel
theorem dX2_closeUp_8 : decode cX2_closeUp 8 = .ok (.iadd, 1) := by decide +kernel
theorem dX2_closeUp_9 : decode cX2_closeUp 9 = .ok (.aload_n 0, 1) := by decide +kernel
theorem dX2_closeUp_10 : decode cX2_closeUp 10 = .ok (.getfield 17, 3) := by decide +kernel
theorem dX2_closeUp_13 : decode cX2_closeUp 13 = .ok (.if_icmp .ge 34, 3) := by decide +kernel
theorem dX2_closeUp_16 : decode cX2_closeUp 16 = .ok (.iload_n 2, 1) := by decide +kernel
theorem dX2_closeUp_17 : decode cX2_closeUp 17 = .ok (.iconst 1, 1) := by decide +kernel
theorem dX2_closeUp_18 : decode cX2_closeUp 18 = .ok (.iadd, 1) := by decide +kernel
theorem dX2_closeUp_19 : decode cX2_closeUp 19 = .ok (.aload_n 0, 1) := by decide +kernel
theorem dX2_closeUp_20 : decode cX2_closeUp 20 = .ok (.getfield 11, 3) := by decide +kernel
theorem dX2_closeUp_23 : decode cX2_closeUp 23 = .ok (.arraylength, 1) := by decide +kernel
theorem dX2_closeUp_24 : decode cX2_closeUp 24 = .ok (.if_icmp .ge 23, 3) := by decide +kernel
theorem dX2_closeUp_27 : decode cX2_closeUp 27 = .ok (.aload_n 0, 1) := by decide +kernel
theorem dX2_closeUp_28 : decode cX2_closeUp 28 = .ok (.getfield 11, 3) := by decide +kernel
theorem dX2_closeUp_31 : decode cX2_closeUp 31 = .ok (.iload_n 2, 1) := by decide +kernel
theorem dX2_closeUp_32 : decode cX2_closeUp 32 = .ok (.aload_n 0, 1) := by decide +kernel
theorem dX2_closeUp_33 : decode cX2_closeUp 33 = .ok (.getfield 11, 3) := by decide +kernel
theorem dX2_closeUp_36 : decode cX2_closeUp 36 = .ok (.iload_n 2, 1) := by decide +kernel
theorem dX2_closeUp_37 : decode cX2_closeUp 37 = .ok (.iconst 1, 1) := by decide +kernel
theorem dX2_closeUp_38 : decode cX2_closeUp 38 = .ok (.iadd, 1) := by decide +kernel
theorem dX2_closeUp_39 : decode cX2_closeUp 39 = .ok (.aaload, 1) := by decide +kernel
theorem dX2_closeUp_40 : decode cX2_closeUp 40 = .ok (.aastore, 1) := by decide +kernel
theorem dX2_closeUp_41 : decode cX2_closeUp 41 = .ok (.iinc 2 1, 3) := by decide +kernel
theorem dX2_closeUp_44 : decode cX2_closeUp 44 = .ok (.goto (-38), 3) := by decide +kernel
theorem dX2_closeUp_47 : decode cX2_closeUp 47 = .ok (.aload_n 0, 1) := by decide +kernel
theorem dX2_closeUp_48 : decode cX2_closeUp 48 = .ok (.dup, 1) := by decide +kernel
theorem dX2_closeUp_49 : decode cX2_closeUp 49 = .ok (.getfield 17, 3) := by decide +kernel
theorem dX2_closeUp_52 : decode cX2_closeUp 52 = .ok (.iconst 1, 1) := by decide +kernel
theorem dX2_closeUp_53 : decode cX2_closeUp 53 = .ok (.isub, 1) := by decide +kernel
theorem dX2_closeUp_54 : decode cX2_closeUp 54 = .ok (.putfield 17, 3) := by decide +kernel
theorem dX2_closeUp_57 : decode cX2_closeUp 57 = .ok (.return_, 1) := by decide +kernel
theorem dX3_init_0 : decode cX3_init 0 = .ok (.aload_n 0, 1) := by decide +kernel
theorem dX3_init_1 : decode cX3_init 1 = .ok (.invokespecial 3, 3) := by decide +kernel
theorem dX3_init_4 : decode cX3_init 4 = .ok (.aload_n 0, 1) := by decide +kernel
theorem dX3_init_5 : decode cX3_init 5 = .ok (.sipush 5000, 3) := by decide +kernel
theorem dX3_init_8 : decode cX3_init 8 = .ok (.putfield 9, 3) := by decide +kernel
theorem dX3_init_11 : decode cX3_init 11 = .ok (.return_, 1) := by decide +kernel
theorem dX3_put_0 : decode cX3_put 0 = .ok (.iload_n 2, 1) := by decide +kernel
theorem dX3_put_1 : decode cX3_put 1 = .ok (.ifCond .eq 15, 3) := by decide +kernel
theorem dX3_put_4 : decode cX3_put 4 = .ok (.aload_n 0, 1) := by decide +kernel
theorem dX3_put_5 : decode cX3_put 5 = .ok (.dup, 1) := by decide +kernel
theorem dX3_put_6 : decode cX3_put 6 = .ok (.getfield 15, 3) := by decide +kernel
theorem dX3_put_9 : decode cX3_put 9 = .ok (.iload_n 1, 1) := by decide +kernel
theorem dX3_put_10 : decode cX3_put 10 = .ok (.iadd, 1) := by decide +kernel
theorem dX3_put_11 : decode cX3_put 11 = .ok (.putfield 15, 3) := by decide +kernel
theorem dX3_put_14 : decode cX3_put 14 = .ok (.iconst 1, 1) := by decide +kernel
theorem dX3_put_15 : decode cX3_put 15 = .ok (.ireturn, 1) := by decide +kernel
theorem dX3_put_16 : decode cX3_put 16 = .ok (.iload_n 1, 1) := by decide +kernel
theorem dX3_put_17 : decode cX3_put 17 = .ok (.aload_n 0, 1) := by decide +kernel
theorem dX3_put_18 : decode cX3_put 18 = .ok (.getfield 9, 3) := by decide +kernel
theorem dX3_put_21 : decode cX3_put 21 = .ok (.aload_n 0, 1) := by decide +kernel
theorem dX3_put_22 : decode cX3_put 22 = .ok (.getfield 18, 3) := by decide +kernel
theorem dX3_put_25 : decode cX3_put 25 = .ok (.isub, 1) := by decide +kernel
theorem dX3_put_26 : decode cX3_put 26 = .ok (.if_icmp .gt 15, 3) := by decide +kernel
theorem dX3_put_29 : decode cX3_put 29 = .ok (.aload_n 0, 1) := by decide +kernel
theorem dX3_put_30 : decode cX3_put 30 = .ok (.dup, 1) := by decide +kernel
theorem dX3_put_31 : decode cX3_put 31 = .ok (.getfield 18, 3) := by decide +kernel
theorem dX3_put_34 : decode cX3_put 34 = .ok (.iload_n 1, 1) := by decide +kernel
theorem dX3_put_35 : decode cX3_put 35 = .ok (.iadd, 1) := by decide +kernel
theorem dX3_put_36 : decode cX3_put 36 = .ok (.putfield 18, 3) := by decide +kernel
theorem dX3_put_39 : decode cX3_put 39 = .ok (.iconst 0, 1) := by decide +kernel
theorem dX3_put_40 : decode cX3_put 40 = .ok (.ireturn, 1) := by decide +kernel
theorem dX3_put_41 : decode cX3_put 41 = .ok (.aload_n 0, 1) := by decide +kernel
theorem dX3_put_42 : decode cX3_put 42 = .ok (.dup, 1) := by decide +kernel
theorem dX3_put_43 : decode cX3_put 43 = .ok (.getfield 21, 3) := by decide +kernel
theorem dX3_put_46 : decode cX3_put 46 = .ok (.iload_n 1, 1) := by decide +kernel
theorem dX3_put_47 : decode cX3_put 47 = .ok (.iadd, 1) := by decide +kernel
theorem dX3_put_48 : decode cX3_put 48 = .ok (.putfield 21, 3) := by decide +kernel
theorem dX3_put_51 : decode cX3_put 51 = .ok (.iconst 2, 1) := by decide +kernel
theorem dX3_put_52 : decode cX3_put 52 = .ok (.ireturn, 1) := by decide +kernel
theorem dX3_takeAway_0 : decode cX3_takeAway 0 = .ok (.iload_n 1, 1) := by decide +kernel
theorem dX3_takeAway_1 : decode cX3_takeAway 1 = .ok (.aload_n 0, 1) := by decide +kernel
theorem dX3_takeAway_2 : decode cX3_takeAway 2 = .ok (.getfield 18, 3) := by decide +kernel
theorem dX3_takeAway_5 : decode cX3_takeAway 5 = .ok (.invokestatic 24, 3) := by decide +kernel
theorem dX3_takeAway_8 : decode cX3_takeAway 8 = .ok (.istore_n 2, 1) := by decide +kernel
theorem dX3_takeAway_9 : decode cX3_takeAway 9 = .ok (.aload_n 0, 1) := by decide +kernel
theorem dX3_takeAway_10 : decode cX3_takeAway 10 = .ok (.dup, 1) := by decide +kernel
theorem dX3_takeAway_11 : decode cX3_takeAway 11 = .ok (.getfield 18, 3) := by decide +kernel
theorem dX3_takeAway_14 : decode cX3_takeAway 14 = .ok (.iload_n 2, 1) := by decide +kernel
theorem dX3_takeAway_15 : decode cX3_takeAway 15 = .ok (.isub, 1) := by decide +kernel
theorem dX3_takeAway_16 : decode cX3_takeAway 16 = .ok (.putfield 18, 3) := by decide +kernel
theorem dX3_takeAway_19 : decode cX3_takeAway 19 = .ok (.aload_n 0, 1) := by decide +kernel
theorem dX3_takeAway_20 : decode cX3_takeAway 20 = .ok (.dup, 1) := by decide +kernel
theorem dX3_takeAway_21 : decode cX3_takeAway 21 = .ok (.getfield 30, 3) := by decide +kernel
theorem dX3_takeAway_24 : decode cX3_takeAway 24 = .ok (.iload_n 2, 1) := by decide +kernel
theorem dX3_takeAway_25 : decode cX3_takeAway 25 = .ok (.iadd, 1) := by decide +kernel
theorem dX3_takeAway_26 : decode cX3_takeAway 26 = .ok (.putfield 30, 3) := by decide +kernel
theorem dX3_takeAway_29 : decode cX3_takeAway 29 = .ok (.iload_n 2, 1) := by decide +kernel
theorem dX3_takeAway_30 : decode cX3_takeAway 30 = .ok (.ireturn, 1) := by decide +kernel
theorem dX4_init_0 : decode cX4_init 0 = .ok (.aload_n 0, 1) := by decide +kernel
theorem dX4_init_1 : decode cX4_init 1 = .ok (.invokespecial 3, 3) := by decide +kernel
theorem dX4_init_4 : decode cX4_init 4 = .ok (.aload_n 0, 1) := by decide +kernel
theorem dX4_init_5 : decode cX4_init 5 = .ok (.iconst 1, 1) := by decide +kernel
theorem dX4_init_6 : decode cX4_init 6 = .ok (.putfield 9, 3) := by decide +kernel
theorem dX4_init_9 : decode cX4_init 9 = .ok (.aload_n 0, 1) := by decide +kernel
theorem dX4_init_10 : decode cX4_init 10 = .ok (.bipush (-9), 2) := by decide +kernel
theorem dX4_init_12 : decode cX4_init 12 = .ok (.putfield 15, 3) := by decide +kernel
theorem dX4_init_15 : decode cX4_init 15 = .ok (.aload_n 0, 1) := by decide +kernel
theorem dX4_init_16 : decode cX4_init 16 = .ok (.bipush (-9), 2) := by decide +kernel
theorem dX4_init_18 : decode cX4_init 18 = .ok (.putfield 18, 3) := by decide +kernel
theorem dX4_init_21 : decode cX4_init 21 = .ok (.aload_n 0, 1) := by decide +kernel
theorem dX4_init_22 : decode cX4_init 22 = .ok (.bipush (-9), 2) := by decide +kernel
theorem dX4_init_24 : decode cX4_init 24 = .ok (.putfield 21, 3) := by decide +kernel
theorem dX4_init_27 : decode cX4_init 27 = .ok (.aload_n 0, 1) := by decide +kernel
theorem dX4_init_28 : decode cX4_init 28 = .ok (.bipush (-9), 2) := by decide +kernel
theorem dX4_init_30 : decode cX4_init 30 = .ok (.putfield 24, 3) := by decide +kernel
theorem dX4_init_33 : decode cX4_init 33 = .ok (.aload_n 0, 1) := by decide +kernel
theorem dX4_init_34 : decode cX4_init 34 = .ok (.bipush (-9), 2) := by decide +kernel
theorem dX4_init_36 : decode cX4_init 36 = .ok (.putfield 27, 3) := by decide +kernel
theorem dX4_init_39 : decode cX4_init 39 = .ok (.aload_n 0, 1) := by decide +kernel
theorem dX4_init_40 : decode cX4_init 40 = .ok (.bipush (-9), 2) := by decide +kernel
theorem dX4_init_42 : decode cX4_init 42 = .ok (.putfield 30, 3) := by decide +kernel
theorem dX4_init_45 : decode cX4_init 45 = .ok (.aload_n 0, 1) := by decide +kernel
theorem dX4_init_46 : decode cX4_init 46 = .ok (.iload_n 1, 1) := by decide +kernel
theorem dX4_init_47 : decode cX4_init 47 = .ok (.putfield 33, 3) := by decide +kernel
theorem dX4_init_50 : decode cX4_init 50 = .ok (.aload_n 0, 1) := by decide +kernel
theorem dX4_init_51 : decode cX4_init 51 = .ok (.iload_n 2, 1) := by decide +kernel
theorem dX4_init_52 : decode cX4_init 52 = .ok (.putfield 36, 3) := by decide +kernel
theorem dX4_init_55 : decode cX4_init 55 = .ok (.aload_n 0, 1) := by decide +kernel
theorem dX4_init_56 : decode cX4_init 56 = .ok (.iload_n 3, 1) := by decide +kernel
theorem dX4_init_57 : decode cX4_init 57 = .ok (.putfield 40, 3) := by decide +kernel
theorem dX4_init_60 : decode cX4_init 60 = .ok (.aload_n 0, 1) := by decide +kernel
theorem dX4_init_61 : decode cX4_init 61 = .ok (.iload 4, 2) := by decide +kernel
theorem dX4_init_63 : decode cX4_init 63 = .ok (.putfield 43, 3) := by decide +kernel
theorem dX4_init_66 : decode cX4_init 66 = .ok (.aload_n 0, 1) := by decide +kernel
theorem dX4_init_67 : decode cX4_init 67 = .ok (.iload 5, 2) := by decide +kernel
theorem dX4_init_69 : decode cX4_init 69 = .ok (.putfield 46, 3) := by decide +kernel
theorem dX4_init_72 : decode cX4_init 72 = .ok (.return_, 1) := by decide +kernel
theorem dX4_isOfKind_0 : decode cX4_isOfKind 0 = .ok (.iload_n 1, 1) := by decide +kernel
theorem dX4_isOfKind_1 : decode cX4_isOfKind 1 = .ok (.iconst 3, 1) := by decide +kernel
theorem dX4_isOfKind_2 : decode cX4_isOfKind 2 = .ok (.if_icmp .eq 24, 3) := by decide +kernel
theorem dX4_isOfKind_5 : decode cX4_isOfKind 5 = .ok (.iload_n 1, 1) := by decide +kernel
theorem dX4_isOfKind_6 : decode cX4_isOfKind 6 = .ok (.aload_n 0, 1) := by decide +kernel
theorem dX4_isOfKind_7 : decode cX4_isOfKind 7 = .ok (.getfield 9, 3) := by decide +kernel
theorem dX4_isOfKind_10 : decode cX4_isOfKind 10 = .ok (.if_icmp .eq 16, 3) := by decide +kernel
theorem dX4_isOfKind_13 : decode cX4_isOfKind 13 = .ok (.iload_n 1, 1) := by decide +kernel
theorem dX4_isOfKind_14 : decode cX4_isOfKind 14 = .ok (.iconst 1, 1) := by decide +kernel
theorem dX4_isOfKind_15 : decode cX4_isOfKind 15 = .ok (.if_icmp .ne 15, 3) := by decide +kernel
theorem dX4_isOfKind_18 : decode cX4_isOfKind 18 = .ok (.aload_n 0, 1) := by decide +kernel
theorem dX4_isOfKind_19 : decode cX4_isOfKind 19 = .ok (.getfield 9, 3) := by decide +kernel
theorem dX4_isOfKind_22 : decode cX4_isOfKind 22 = .ok (.iconst 2, 1) := by decide +kernel
theorem dX4_isOfKind_23 : decode cX4_isOfKind 23 = .ok (.if_icmp .ne 7, 3) := by decide +kernel
theorem dX4_isOfKind_26 : decode cX4_isOfKind 26 = .ok (.iconst 1, 1) := by decide +kernel
theorem dX4_isOfKind_27 : decode cX4_isOfKind 27 = .ok (.goto 4, 3) := by decide +kernel
theorem dX4_isOfKind_30 : decode cX4_isOfKind 30 = .ok (.iconst 0, 1) := by decide +kernel
theorem dX4_isOfKind_31 : decode cX4_isOfKind 31 = .ok (.ireturn, 1) := by decide +kernel
theorem dX4_endedOn_0 : decode cX4_endedOn 0 = .ok (.aload_n 0, 1) := by decide +kernel
theorem dX4_endedOn_1 : decode cX4_endedOn 1 = .ok (.getfield 18, 3) := by decide +kernel
theorem dX4_endedOn_4 : decode cX4_endedOn 4 = .ok (.bipush (-9), 2) := by decide +kernel
theorem dX4_endedOn_6 : decode cX4_endedOn 6 = .ok (.if_icmp .eq 19, 3) := by decide +kernel
theorem dX4_endedOn_9 : decode cX4_endedOn 9 = .ok (.aload_n 0, 1) := by decide +kernel
theorem dX4_endedOn_10 : decode cX4_endedOn 10 = .ok (.getfield 18, 3) := by decide +kernel
theorem dX4_endedOn_13 : decode cX4_endedOn 13 = .ok (.sipush 1440, 3) := by decide +kernel
theorem dX4_endedOn_16 : decode cX4_endedOn 16 = .ok (.idiv, 1) := by decide +kernel
theorem dX4_endedOn_17 : decode cX4_endedOn 17 = .ok (.iload_n 1, 1) := by decide +kernel
theorem dX4_endedOn_18 : decode cX4_endedOn 18 = .ok (.if_icmp .ne 7, 3) := by decide +kernel
theorem dX4_endedOn_21 : decode cX4_endedOn 21 = .ok (.iconst 1, 1) := by decide +kernel
theorem dX4_endedOn_22 : decode cX4_endedOn 22 = .ok (.goto 4, 3) := by decide +kernel
theorem dX4_endedOn_25 : decode cX4_endedOn 25 = .ok (.iconst 0, 1) := by decide +kernel
theorem dX4_endedOn_26 : decode cX4_endedOn 26 = .ok (.ireturn, 1) := by decide +kernel
theorem dX4_tell_0 : decode cX4_tell 0 = .ok (.iload_n 1, 1) := by decide +kernel
theorem dX4_tell_1 : decode cX4_tell 1 = .ok (.tableswitch 108 0 9 #[55, 60, 65, 70, 75, 83, 88, 93, 98, 103], 55) := by decide +kernel
theorem dX4_tell_56 : decode cX4_tell 56 = .ok (.aload_n 0, 1) := by decide +kernel
theorem dX4_tell_57 : decode cX4_tell 57 = .ok (.getfield 9, 3) := by decide +kernel
theorem dX4_tell_60 : decode cX4_tell 60 = .ok (.ireturn, 1) := by decide +kernel
theorem dX4_tell_61 : decode cX4_tell 61 = .ok (.aload_n 0, 1) := by decide +kernel
theorem dX4_tell_62 : decode cX4_tell 62 = .ok (.getfield 33, 3) := by decide +kernel
theorem dX4_tell_65 : decode cX4_tell 65 = .ok (.ireturn, 1) := by decide +kernel
theorem dX4_tell_66 : decode cX4_tell 66 = .ok (.aload_n 0, 1) := by decide +kernel
theorem dX4_tell_67 : decode cX4_tell 67 = .ok (.getfield 40, 3) := by decide +kernel
theorem dX4_tell_70 : decode cX4_tell 70 = .ok (.ireturn, 1) := by decide +kernel
theorem dX4_tell_71 : decode cX4_tell 71 = .ok (.aload_n 0, 1) := by decide +kernel
theorem dX4_tell_72 : decode cX4_tell 72 = .ok (.getfield 43, 3) := by decide +kernel
theorem dX4_tell_75 : decode cX4_tell 75 = .ok (.ireturn, 1) := by decide +kernel
theorem dX4_tell_76 : decode cX4_tell 76 = .ok (.aload_n 0, 1) := by decide +kernel
theorem dX4_tell_77 : decode cX4_tell 77 = .ok (.getfield 46, 3) := by decide +kernel
theorem dX4_tell_80 : decode cX4_tell 80 = .ok (.invokestatic 49, 3) := by decide +kernel
theorem dX4_tell_83 : decode cX4_tell 83 = .ok (.ireturn, 1) := by decide +kernel
theorem dX4_tell_84 : decode cX4_tell 84 = .ok (.aload_n 0, 1) := by decide +kernel
theorem dX4_tell_85 : decode cX4_tell 85 = .ok (.getfield 15, 3) := by decide +kernel
theorem dX4_tell_88 : decode cX4_tell 88 = .ok (.ireturn, 1) := by decide +kernel
theorem dX4_tell_89 : decode cX4_tell 89 = .ok (.aload_n 0, 1) := by decide +kernel
theorem dX4_tell_90 : decode cX4_tell 90 = .ok (.getfield 18, 3) := by decide +kernel
theorem dX4_tell_93 : decode cX4_tell 93 = .ok (.ireturn, 1) := by decide +kernel
theorem dX4_tell_94 : decode cX4_tell 94 = .ok (.aload_n 0, 1) := by decide +kernel
theorem dX4_tell_95 : decode cX4_tell 95 = .ok (.getfield 21, 3) := by decide +kernel
theorem dX4_tell_98 : decode cX4_tell 98 = .ok (.ireturn, 1) := by decide +kernel
theorem dX4_tell_99 : decode cX4_tell 99 = .ok (.aload_n 0, 1) := by decide +kernel
theorem dX4_tell_100 : decode cX4_tell 100 = .ok (.getfield 24, 3) := by decide +kernel
theorem dX4_tell_103 : decode cX4_tell 103 = .ok (.ireturn, 1) := by decide +kernel
theorem dX4_tell_104 : decode cX4_tell 104 = .ok (.aload_n 0, 1) := by decide +kernel
theorem dX4_tell_105 : decode cX4_tell 105 = .ok (.getfield 27, 3) := by decide +kernel
theorem dX4_tell_108 : decode cX4_tell 108 = .ok (.ireturn, 1) := by decide +kernel
theorem dX4_tell_109 : decode cX4_tell 109 = .ok (.aload_n 0, 1) := by decide +kernel
theorem dX4_tell_110 : decode cX4_tell 110 = .ok (.getfield 30, 3) := by decide +kernel
theorem dX4_tell_113 : decode cX4_tell 113 = .ok (.ireturn, 1) := by decide +kernel
theorem dX5_init_0 : decode cX5_init 0 = .ok (.aload_n 0, 1) := by decide +kernel
theorem dX5_init_1 : decode cX5_init 1 = .ok (.invokespecial 1, 3) := by decide +kernel
theorem dX5_init_4 : decode cX5_init 4 = .ok (.aload_n 0, 1) := by decide +kernel
theorem dX5_init_5 : decode cX5_init 5 = .ok (.bipush 12, 2) := by decide +kernel
theorem dX5_init_7 : decode cX5_init 7 = .ok (.anewarray 9, 3) := by decide +kernel
theorem dX5_init_10 : decode cX5_init 10 = .ok (.putfield 11, 3) := by decide +kernel
theorem dX5_init_13 : decode cX5_init 13 = .ok (.aload_n 0, 1) := by decide +kernel
theorem dX5_init_14 : decode cX5_init 14 = .ok (.sipush 500, 3) := by decide +kernel
theorem dX5_init_17 : decode cX5_init 17 = .ok (.anewarray 15, 3) := by decide +kernel
theorem dX5_init_20 : decode cX5_init 20 = .ok (.putfield 17, 3) := by decide +kernel
theorem dX5_init_23 : decode cX5_init 23 = .ok (.aload_n 0, 1) := by decide +kernel
theorem dX5_init_24 : decode cX5_init 24 = .ok (.new 21, 3) := by decide +kernel
theorem dX5_init_27 : decode cX5_init 27 = .ok (.dup, 1) := by decide +kernel
theorem dX5_init_28 : decode cX5_init 28 = .ok (.invokespecial 23, 3) := by decide +kernel
theorem dX5_init_31 : decode cX5_init 31 = .ok (.putfield 24, 3) := by decide +kernel
theorem dX5_init_34 : decode cX5_init 34 = .ok (.aload_n 0, 1) := by decide +kernel
theorem dX5_init_35 : decode cX5_init 35 = .ok (.new 28, 3) := by decide +kernel
theorem dX5_init_38 : decode cX5_init 38 = .ok (.dup, 1) := by decide +kernel
theorem dX5_init_39 : decode cX5_init 39 = .ok (.invokespecial 30, 3) := by decide +kernel
theorem dX5_init_42 : decode cX5_init 42 = .ok (.putfield 31, 3) := by decide +kernel
theorem dX5_init_45 : decode cX5_init 45 = .ok (.aload_n 0, 1) := by decide +kernel
theorem dX5_init_46 : decode cX5_init 46 = .ok (.new 35, 3) := by decide +kernel
theorem dX5_init_49 : decode cX5_init 49 = .ok (.dup, 1) := by decide +kernel
theorem dX5_init_50 : decode cX5_init 50 = .ok (.invokespecial 37, 3) := by decide +kernel
theorem dX5_init_53 : decode cX5_init 53 = .ok (.putfield 38, 3) := by decide +kernel
theorem dX5_init_56 : decode cX5_init 56 = .ok (.aload_n 0, 1) := by decide +kernel
theorem dX5_init_57 : decode cX5_init 57 = .ok (.iconst 1, 1) := by decide +kernel
theorem dX5_init_58 : decode cX5_init 58 = .ok (.putfield 42, 3) := by decide +kernel
theorem dX5_init_61 : decode cX5_init 61 = .ok (.return_, 1) := by decide +kernel
theorem dX5_cow_0 : decode cX5_cow 0 = .ok (.iload_n 1, 1) := by decide +kernel
theorem dX5_cow_1 : decode cX5_cow 1 = .ok (.iconst 0, 1) := by decide +kernel
theorem dX5_cow_2 : decode cX5_cow 2 = .ok (.iconst 2, 1) := by decide +kernel
theorem dX5_cow_3 : decode cX5_cow 3 = .ok (.invokestatic 46, 3) := by decide +kernel
theorem dX5_cow_6 : decode cX5_cow 6 = .ok (.ifCond .eq 13, 3) := by decide +kernel
theorem dX5_cow_9 : decode cX5_cow 9 = .ok (.iload_n 2, 1) := by decide +kernel
theorem dX5_cow_10 : decode cX5_cow 10 = .ok (.iconst 1, 1) := by decide +kernel
theorem dX5_cow_11 : decode cX5_cow 11 = .ok (.bipush 30, 2) := by decide +kernel
theorem dX5_cow_13 : decode cX5_cow 13 = .ok (.invokestatic 46, 3) := by decide +kernel
theorem dX5_cow_16 : decode cX5_cow 16 = .ok (.ifCond .ne 6, 3) := by decide +kernel
theorem dX5_cow_19 : decode cX5_cow 19 = .ok (.bipush (-2), 2) := by decide +kernel
theorem dX5_cow_21 : decode cX5_cow 21 = .ok (.ireturn, 1) := by decide +kernel
theorem dX5_cow_22 : decode cX5_cow 22 = .ok (.iload_n 3, 1) := by decide +kernel
theorem dX5_cow_23 : decode cX5_cow 23 = .ok (.iconst 0, 1) := by decide +kernel
theorem dX5_cow_24 : decode cX5_cow 24 = .ok (.sipush 1440, 3) := by decide +kernel
theorem dX5_cow_27 : decode cX5_cow 27 = .ok (.invokestatic 46, 3) := by decide +kernel
theorem dX5_cow_30 : decode cX5_cow 30 = .ok (.ifCond .eq 15, 3) := by decide +kernel
theorem dX5_cow_33 : decode cX5_cow 33 = .ok (.iload 4, 2) := by decide +kernel
theorem dX5_cow_35 : decode cX5_cow 35 = .ok (.iconst 0, 1) := by decide +kernel
theorem dX5_cow_36 : decode cX5_cow 36 = .ok (.sipush 5000, 3) := by decide +kernel
theorem dX5_cow_39 : decode cX5_cow 39 = .ok (.invokestatic 46, 3) := by decide +kernel
theorem dX5_cow_42 : decode cX5_cow 42 = .ok (.ifCond .ne 6, 3) := by decide +kernel
theorem dX5_cow_45 : decode cX5_cow 45 = .ok (.bipush (-2), 2) := by decide +kernel
theorem dX5_cow_47 : decode cX5_cow 47 = .ok (.ireturn, 1) := by decide +kernel
theorem dX5_cow_48 : decode cX5_cow 48 = .ok (.aload_n 0, 1) := by decide +kernel
theorem dX5_cow_49 : decode cX5_cow 49 = .ok (.getfield 50, 3) := by decide +kernel
theorem dX5_cow_52 : decode cX5_cow 52 = .ok (.bipush 12, 2) := by decide +kernel
theorem dX5_cow_54 : decode cX5_cow 54 = .ok (.if_icmp .lt 6, 3) := by decide +kernel
theorem dX5_cow_57 : decode cX5_cow 57 = .ok (.bipush (-4), 2) := by decide +kernel
theorem dX5_cow_59 : decode cX5_cow 59 = .ok (.ireturn, 1) := by decide +kernel
theorem dX5_cow_60 : decode cX5_cow 60 = .ok (.aload_n 0, 1) := by decide +kernel
theorem dX5_cow_61 : decode cX5_cow 61 = .ok (.getfield 11, 3) := by decide +kernel
theorem dX5_cow_64 : decode cX5_cow 64 = .ok (.aload_n 0, 1) := by decide +kernel
theorem dX5_cow_65 : decode cX5_cow 65 = .ok (.getfield 50, 3) := by decide +kernel
theorem dX5_cow_68 : decode cX5_cow 68 = .ok (.new 9, 3) := by decide +kernel
theorem dX5_cow_71 : decode cX5_cow 71 = .ok (.dup, 1) := by decide +kernel
theorem dX5_cow_72 : decode cX5_cow 72 = .ok (.iload_n 1, 1) := by decide +kernel
theorem dX5_cow_73 : decode cX5_cow 73 = .ok (.iload_n 2, 1) := by decide +kernel
theorem dX5_cow_74 : decode cX5_cow 74 = .ok (.iload_n 3, 1) := by decide +kernel
theorem dX5_cow_75 : decode cX5_cow 75 = .ok (.iload 4, 2) := by decide +kernel
theorem dX5_cow_77 : decode cX5_cow 77 = .ok (.aload_n 0, 1) := by decide +kernel
theorem dX5_cow_78 : decode cX5_cow 78 = .ok (.getfield 54, 3) := by decide +kernel
theorem dX5_cow_81 : decode cX5_cow 81 = .ok (.invokespecial 57, 3) := by decide +kernel
theorem dX5_cow_84 : decode cX5_cow 84 = .ok (.aastore, 1) := by decide +kernel
theorem dX5_cow_85 : decode cX5_cow 85 = .ok (.aload_n 0, 1) := by decide +kernel
theorem dX5_cow_86 : decode cX5_cow 86 = .ok (.dup, 1) := by decide +kernel
theorem dX5_cow_87 : decode cX5_cow 87 = .ok (.getfield 50, 3) := by decide +kernel
theorem dX5_cow_90 : decode cX5_cow 90 = .ok (.iconst 1, 1) := by decide +kernel
theorem dX5_cow_91 : decode cX5_cow 91 = .ok (.iadd, 1) := by decide +kernel
theorem dX5_cow_92 : decode cX5_cow 92 = .ok (.putfield 50, 3) := by decide +kernel
theorem dX5_cow_95 : decode cX5_cow 95 = .ok (.aload_n 0, 1) := by decide +kernel
theorem dX5_cow_96 : decode cX5_cow 96 = .ok (.getfield 50, 3) := by decide +kernel
theorem dX5_cow_99 : decode cX5_cow 99 = .ok (.iconst 1, 1) := by decide +kernel
theorem dX5_cow_100 : decode cX5_cow 100 = .ok (.isub, 1) := by decide +kernel
theorem dX5_cow_101 : decode cX5_cow 101 = .ok (.ireturn, 1) := by decide +kernel
theorem dX5_taken_0 : decode cX5_taken 0 = .ok (.aload_n 0, 1) := by decide +kernel
theorem dX5_taken_1 : decode cX5_taken 1 = .ok (.iload_n 1, 1) := by decide +kernel
theorem dX5_taken_2 : decode cX5_taken 2 = .ok (.invokevirtual 60, 3) := by decide +kernel
theorem dX5_taken_5 : decode cX5_taken 5 = .ok (.astore 4, 2) := by decide +kernel
theorem dX5_taken_7 : decode cX5_taken 7 = .ok (.aload 4, 2) := by decide +kernel
theorem dX5_taken_9 : decode cX5_taken 9 = .ok (.ifnonnull 5, 3) := by decide +kernel
theorem dX5_taken_12 : decode cX5_taken 12 = .ok (.iconst (-1), 1) := by decide +kernel
theorem dX5_taken_13 : decode cX5_taken 13 = .ok (.ireturn, 1) := by decide +kernel
theorem dX5_taken_14 : decode cX5_taken 14 = .ok (.iload_n 2, 1) := by decide +kernel
theorem dX5_taken_15 : decode cX5_taken 15 = .ok (.iconst 0, 1) := by decide +kernel
theorem dX5_taken_16 : decode cX5_taken 16 = .ok (.iconst 2, 1) := by decide +kernel
theorem dX5_taken_17 : decode cX5_taken 17 = .ok (.invokestatic 46, 3) := by decide +kernel
theorem dX5_taken_20 : decode cX5_taken 20 = .ok (.ifCond .eq 12, 3) := by decide +kernel
theorem dX5_taken_23 : decode cX5_taken 23 = .ok (.iload_n 3, 1) := by decide +kernel
theorem dX5_taken_24 : decode cX5_taken 24 = .ok (.iconst 0, 1) := by decide +kernel
theorem dX5_taken_25 : decode cX5_taken 25 = .ok (.iconst 3, 1) := by decide +kernel
theorem dX5_taken_26 : decode cX5_taken 26 = .ok (.invokestatic 46, 3) := by decide +kernel
theorem dX5_taken_29 : decode cX5_taken 29 = .ok (.ifCond .ne 6, 3) := by decide +kernel
theorem dX5_taken_32 : decode cX5_taken 32 = .ok (.bipush (-2), 2) := by decide +kernel
theorem dX5_taken_34 : decode cX5_taken 34 = .ok (.ireturn, 1) := by decide +kernel
theorem dX5_taken_35 : decode cX5_taken 35 = .ok (.iload_n 2, 1) := by decide +kernel
theorem dX5_taken_36 : decode cX5_taken 36 = .ok (.ifCond .eq 15, 3) := by decide +kernel
theorem dX5_taken_39 : decode cX5_taken 39 = .ok (.iload_n 2, 1) := by decide +kernel
theorem dX5_taken_40 : decode cX5_taken 40 = .ok (.aload 4, 2) := by decide +kernel
theorem dX5_taken_42 : decode cX5_taken 42 = .ok (.getfield 64, 3) := by decide +kernel
theorem dX5_taken_45 : decode cX5_taken 45 = .ok (.if_icmp .eq 6, 3) := by decide +kernel
theorem dX5_taken_48 : decode cX5_taken 48 = .ok (.bipush (-13), 2) := by decide +kernel
theorem dX5_taken_50 : decode cX5_taken 50 = .ok (.ireturn, 1) := by decide +kernel
theorem dX5_taken_51 : decode cX5_taken 51 = .ok (.iload_n 3, 1) := by decide +kernel
theorem dX5_taken_52 : decode cX5_taken 52 = .ok (.tableswitch 46 0 2 #[28, 34, 40], 28) := by decide +kernel
theorem dX5_taken_80 : decode cX5_taken 80 = .ok (.aload 4, 2) := by decide +kernel
theorem dX5_taken_82 : decode cX5_taken 82 = .ok (.getfield 64, 3) := by decide +kernel
theorem dX5_taken_85 : decode cX5_taken 85 = .ok (.ireturn, 1) := by decide +kernel
theorem dX5_taken_86 : decode cX5_taken 86 = .ok (.aload 4, 2) := by decide +kernel
theorem dX5_taken_88 : decode cX5_taken 88 = .ok (.getfield 67, 3) := by decide +kernel
theorem dX5_taken_91 : decode cX5_taken 91 = .ok (.ireturn, 1) := by decide +kernel
theorem dX5_taken_92 : decode cX5_taken 92 = .ok (.aload 4, 2) := by decide +kernel
theorem dX5_taken_94 : decode cX5_taken 94 = .ok (.getfield 70, 3) := by decide +kernel
theorem dX5_taken_97 : decode cX5_taken 97 = .ok (.ireturn, 1) := by decide +kernel
theorem dX5_taken_98 : decode cX5_taken 98 = .ok (.aload 4, 2) := by decide +kernel
theorem dX5_taken_100 : decode cX5_taken 100 = .ok (.getfield 73, 3) := by decide +kernel
theorem dX5_taken_103 : decode cX5_taken 103 = .ok (.ireturn, 1) := by decide +kernel
theorem dX5_withhold_0 : decode cX5_withhold 0 = .ok (.aload_n 0, 1) := by decide +kernel
theorem dX5_withhold_1 : decode cX5_withhold 1 = .ok (.iload_n 1, 1) := by decide +kernel
theorem dX5_withhold_2 : decode cX5_withhold 2 = .ok (.invokevirtual 60, 3) := by decide +kernel
theorem dX5_withhold_5 : decode cX5_withhold 5 = .ok (.astore_n 3, 1) := by decide +kernel
theorem dX5_withhold_6 : decode cX5_withhold 6 = .ok (.aload_n 3, 1) := by decide +kernel
theorem dX5_withhold_7 : decode cX5_withhold 7 = .ok (.ifnonnull 5, 3) := by decide +kernel
theorem dX5_withhold_10 : decode cX5_withhold 10 = .ok (.iconst (-1), 1) := by decide +kernel
theorem dX5_withhold_11 : decode cX5_withhold 11 = .ok (.ireturn, 1) := by decide +kernel
theorem dX5_withhold_12 : decode cX5_withhold 12 = .ok (.iload_n 2, 1) := by decide +kernel
theorem dX5_withhold_13 : decode cX5_withhold 13 = .ok (.iconst 0, 1) := by decide +kernel
theorem dX5_withhold_14 : decode cX5_withhold 14 = .ok (.ldc 76, 2) := by decide +kernel
theorem dX5_withhold_16 : decode cX5_withhold 16 = .ok (.invokestatic 46, 3) := by decide +kernel
theorem dX5_withhold_19 : decode cX5_withhold 19 = .ok (.ifCond .ne 6, 3) := by decide +kernel
theorem dX5_withhold_22 : decode cX5_withhold 22 = .ok (.bipush (-2), 2) := by decide +kernel
theorem dX5_withhold_24 : decode cX5_withhold 24 = .ok (.ireturn, 1) := by decide +kernel
theorem dX5_withhold_25 : decode cX5_withhold 25 = .ok (.aload_n 3, 1) := by decide +kernel
theorem dX5_withhold_26 : decode cX5_withhold 26 = .ok (.getfield 77, 3) := by decide +kernel
theorem dX5_withhold_29 : decode cX5_withhold 29 = .ok (.istore 4, 2) := by decide +kernel
theorem dX5_withhold_31 : decode cX5_withhold 31 = .ok (.aload_n 3, 1) := by decide +kernel
theorem dX5_withhold_32 : decode cX5_withhold 32 = .ok (.iload_n 2, 1) := by decide +kernel
theorem dX5_withhold_33 : decode cX5_withhold 33 = .ok (.putfield 77, 3) := by decide +kernel
theorem dX5_withhold_36 : decode cX5_withhold 36 = .ok (.iload 4, 2) := by decide +kernel
theorem dX5_withhold_38 : decode cX5_withhold 38 = .ok (.ireturn, 1) := by decide +kernel
theorem dX5_trouble_0 : decode cX5_trouble 0 = .ok (.aload_n 0, 1) := by decide +kernel
theorem dX5_trouble_1 : decode cX5_trouble 1 = .ok (.iload_n 1, 1) := by decide +kernel
theorem dX5_trouble_2 : decode cX5_trouble 2 = .ok (.invokevirtual 60, 3) := by decide +kernel
theorem dX5_trouble_5 : decode cX5_trouble 5 = .ok (.astore 4, 2) := by decide +kernel
theorem dX5_trouble_7 : decode cX5_trouble 7 = .ok (.aload 4, 2) := by decide +kernel
theorem dX5_trouble_9 : decode cX5_trouble 9 = .ok (.ifnull 12, 3) := by decide +kernel
theorem dX5_trouble_12 : decode cX5_trouble 12 = .ok (.iload_n 2, 1) := by decide +kernel
theorem dX5_trouble_13 : decode cX5_trouble 13 = .ok (.iconst 0, 1) := by decide +kernel
theorem dX5_trouble_14 : decode cX5_trouble 14 = .ok (.iconst 3, 1) := by decide +kernel
theorem dX5_trouble_15 : decode cX5_trouble 15 = .ok (.invokestatic 46, 3) := by decide +kernel
theorem dX5_trouble_18 : decode cX5_trouble 18 = .ok (.ifCond .ne 5, 3) := by decide +kernel
theorem dX5_trouble_21 : decode cX5_trouble 21 = .ok (.iconst (-1), 1) := by decide +kernel
theorem dX5_trouble_22 : decode cX5_trouble 22 = .ok (.ireturn, 1) := by decide +kernel
theorem dX5_trouble_23 : decode cX5_trouble 23 = .ok (.iload_n 3, 1) := by decide +kernel
theorem dX5_trouble_24 : decode cX5_trouble 24 = .ok (.iconst 0, 1) := by decide +kernel
theorem dX5_trouble_25 : decode cX5_trouble 25 = .ok (.bipush 9, 2) := by decide +kernel
theorem dX5_trouble_27 : decode cX5_trouble 27 = .ok (.invokestatic 46, 3) := by decide +kernel
theorem dX5_trouble_30 : decode cX5_trouble 30 = .ok (.ifCond .ne 6, 3) := by decide +kernel
theorem dX5_trouble_33 : decode cX5_trouble 33 = .ok (.bipush (-2), 2) := by decide +kernel
theorem dX5_trouble_35 : decode cX5_trouble 35 = .ok (.ireturn, 1) := by decide +kernel
theorem dX5_trouble_36 : decode cX5_trouble 36 = .ok (.aload 4, 2) := by decide +kernel
theorem dX5_trouble_38 : decode cX5_trouble 38 = .ok (.getfield 80, 3) := by decide +kernel
theorem dX5_trouble_41 : decode cX5_trouble 41 = .ok (.iload_n 2, 1) := by decide +kernel
theorem dX5_trouble_42 : decode cX5_trouble 42 = .ok (.iaload, 1) := by decide +kernel
theorem dX5_trouble_43 : decode cX5_trouble 43 = .ok (.istore 5, 2) := by decide +kernel
theorem dX5_trouble_45 : decode cX5_trouble 45 = .ok (.aload 4, 2) := by decide +kernel
theorem dX5_trouble_47 : decode cX5_trouble 47 = .ok (.getfield 80, 3) := by decide +kernel
theorem dX5_trouble_50 : decode cX5_trouble 50 = .ok (.iload_n 2, 1) := by decide +kernel
theorem dX5_trouble_51 : decode cX5_trouble 51 = .ok (.iload_n 3, 1) := by decide +kernel
theorem dX5_trouble_52 : decode cX5_trouble 52 = .ok (.iastore, 1) := by decide +kernel
theorem dX5_trouble_53 : decode cX5_trouble 53 = .ok (.iload 5, 2) := by decide +kernel
theorem dX5_trouble_55 : decode cX5_trouble 55 = .ok (.ireturn, 1) := by decide +kernel
theorem dX5_about_0 : decode cX5_about 0 = .ok (.aload_n 0, 1) := by decide +kernel
theorem dX5_about_1 : decode cX5_about 1 = .ok (.iload_n 1, 1) := by decide +kernel
theorem dX5_about_2 : decode cX5_about 2 = .ok (.invokevirtual 60, 3) := by decide +kernel
theorem dX5_about_5 : decode cX5_about 5 = .ok (.astore_n 3, 1) := by decide +kernel
theorem dX5_about_6 : decode cX5_about 6 = .ok (.aload_n 3, 1) := by decide +kernel
theorem dX5_about_7 : decode cX5_about 7 = .ok (.ifnonnull 5, 3) := by decide +kernel
theorem dX5_about_10 : decode cX5_about 10 = .ok (.iconst (-1), 1) := by decide +kernel
theorem dX5_about_11 : decode cX5_about 11 = .ok (.ireturn, 1) := by decide +kernel
theorem dX5_about_12 : decode cX5_about 12 = .ok (.iload_n 2, 1) := by decide +kernel
theorem dX5_about_13 : decode cX5_about 13 = .ok (.iconst 0, 1) := by decide +kernel
theorem dX5_about_14 : decode cX5_about 14 = .ok (.bipush 6, 2) := by decide +kernel
theorem dX5_about_16 : decode cX5_about 16 = .ok (.invokestatic 46, 3) := by decide +kernel
theorem dX5_about_19 : decode cX5_about 19 = .ok (.ifCond .ne 6, 3) := by decide +kernel
theorem dX5_about_22 : decode cX5_about 22 = .ok (.bipush (-2), 2) := by decide +kernel
theorem dX5_about_24 : decode cX5_about 24 = .ok (.ireturn, 1) := by decide +kernel
theorem dX5_about_25 : decode cX5_about 25 = .ok (.iload_n 2, 1) := by decide +kernel
theorem dX5_about_26 : decode cX5_about 26 = .ok (.tableswitch 91 0 5 #[38, 47, 52, 64, 77, 86], 38) := by decide +kernel
theorem dX5_about_64 : decode cX5_about 64 = .ok (.aload_n 3, 1) := by decide +kernel
theorem dX5_about_65 : decode cX5_about 65 = .ok (.aload_n 0, 1) := by decide +kernel
theorem dX5_about_66 : decode cX5_about 66 = .ok (.getfield 54, 3) := by decide +kernel
theorem dX5_about_69 : decode cX5_about 69 = .ok (.invokevirtual 84, 3) := by decide +kernel
theorem dX5_about_72 : decode cX5_about 72 = .ok (.ireturn, 1) := by decide +kernel
theorem dX5_about_73 : decode cX5_about 73 = .ok (.aload_n 3, 1) := by decide +kernel
theorem dX5_about_74 : decode cX5_about 74 = .ok (.getfield 88, 3) := by decide +kernel
theorem dX5_about_77 : decode cX5_about 77 = .ok (.ireturn, 1) := by decide +kernel
theorem dX5_about_78 : decode cX5_about 78 = .ok (.aload_n 3, 1) := by decide +kernel
theorem dX5_about_79 : decode cX5_about 79 = .ok (.aload_n 0, 1) := by decide +kernel
theorem dX5_about_80 : decode cX5_about 80 = .ok (.getfield 54, 3) := by decide +kernel
theorem dX5_about_83 : decode cX5_about 83 = .ok (.invokevirtual 91, 3) := by decide +kernel
theorem dX5_about_86 : decode cX5_about 86 = .ok (.invokestatic 95, 3) := by decide +kernel
theorem dX5_about_89 : decode cX5_about 89 = .ok (.ireturn, 1) := by decide +kernel
theorem dX5_about_90 : decode cX5_about 90 = .ok (.aload_n 3, 1) := by decide +kernel
theorem dX5_about_91 : decode cX5_about 91 = .ok (.aload_n 0, 1) := by decide +kernel
theorem dX5_about_92 : decode cX5_about 92 = .ok (.getfield 54, 3) := by decide +kernel
theorem dX5_about_95 : decode cX5_about 95 = .ok (.sipush 1440, 3) := by decide +kernel
theorem dX5_about_98 : decode cX5_about 98 = .ok (.idiv, 1) := by decide +kernel
theorem dX5_about_99 : decode cX5_about 99 = .ok (.invokevirtual 99, 3) := by decide +kernel
theorem dX5_about_102 : decode cX5_about 102 = .ok (.ireturn, 1) := by decide +kernel
theorem dX5_about_103 : decode cX5_about 103 = .ok (.aload_n 0, 1) := by decide +kernel
theorem dX5_about_104 : decode cX5_about 104 = .ok (.getfield 24, 3) := by decide +kernel
theorem dX5_about_107 : decode cX5_about 107 = .ok (.iload_n 1, 1) := by decide +kernel
theorem dX5_about_108 : decode cX5_about 108 = .ok (.invokevirtual 102, 3) := by decide +kernel
theorem dX5_about_111 : decode cX5_about 111 = .ok (.ireturn, 1) := by decide +kernel
theorem dX5_about_112 : decode cX5_about 112 = .ok (.aload_n 3, 1) := by decide +kernel
theorem dX5_about_113 : decode cX5_about 113 = .ok (.getfield 105, 3) := by decide +kernel
theorem dX5_about_116 : decode cX5_about 116 = .ok (.ireturn, 1) := by decide +kernel
theorem dX5_about_117 : decode cX5_about 117 = .ok (.aload_n 3, 1) := by decide +kernel
theorem dX5_about_118 : decode cX5_about 118 = .ok (.getfield 108, 3) := by decide +kernel
theorem dX5_about_121 : decode cX5_about 121 = .ok (.ireturn, 1) := by decide +kernel
theorem dX5_pass_0 : decode cX5_pass 0 = .ok (.iload_n 1, 1) := by decide +kernel
theorem dX5_pass_1 : decode cX5_pass 1 = .ok (.iconst 1, 1) := by decide +kernel
theorem dX5_pass_2 : decode cX5_pass 2 = .ok (.sipush 20000, 3) := by decide +kernel
theorem dX5_pass_5 : decode cX5_pass 5 = .ok (.invokestatic 46, 3) := by decide +kernel
theorem dX5_pass_8 : decode cX5_pass 8 = .ok (.ifCond .ne 6, 3) := by decide +kernel
theorem dX5_pass_11 : decode cX5_pass 11 = .ok (.bipush (-2), 2) := by decide +kernel
theorem dX5_pass_13 : decode cX5_pass 13 = .ok (.ireturn, 1) := by decide +kernel
theorem dX5_pass_14 : decode cX5_pass 14 = .ok (.aload_n 0, 1) := by decide +kernel
theorem dX5_pass_15 : decode cX5_pass 15 = .ok (.getfield 54, 3) := by decide +kernel
theorem dX5_pass_18 : decode cX5_pass 18 = .ok (.iload_n 1, 1) := by decide +kernel
theorem dX5_pass_19 : decode cX5_pass 19 = .ok (.iadd, 1) := by decide +kernel
theorem dX5_pass_20 : decode cX5_pass 20 = .ok (.istore_n 2, 1) := by decide +kernel
theorem dX5_pass_21 : decode cX5_pass 21 = .ok (.iload_n 2, 1) := by decide +kernel
theorem dX5_pass_22 : decode cX5_pass 22 = .ok (.ldc 111, 2) := by decide +kernel
theorem dX5_pass_24 : decode cX5_pass 24 = .ok (.if_icmp .le 6, 3) := by decide +kernel
theorem dX5_pass_27 : decode cX5_pass 27 = .ok (.bipush (-4), 2) := by decide +kernel
theorem dX5_pass_29 : decode cX5_pass 29 = .ok (.ireturn, 1) := by decide +kernel
theorem dX5_pass_30 : decode cX5_pass 30 = .ok (.iconst 0, 1) := by decide +kernel
theorem dX5_pass_31 : decode cX5_pass 31 = .ok (.istore_n 3, 1) := by decide +kernel
theorem dX5_pass_32 : decode cX5_pass 32 = .ok (.iload_n 3, 1) := by decide +kernel
theorem dX5_pass_33 : decode cX5_pass 33 = .ok (.bipush 12, 2) := by decide +kernel
theorem dX5_pass_35 : decode cX5_pass 35 = .ok (.if_icmp .ge 50, 3) := by decide +kernel
theorem dX5_pass_38 : decode cX5_pass 38 = .ok (.aload_n 0, 1) := by decide +kernel
theorem dX5_pass_39 : decode cX5_pass 39 = .ok (.getfield 31, 3) := by decide +kernel
theorem dX5_pass_42 : decode cX5_pass 42 = .ok (.invokevirtual 112, 3) := by decide +kernel
theorem dX5_pass_45 : decode cX5_pass 45 = .ok (.ifCond .eq 40, 3) := by decide +kernel
theorem dX5_pass_48 : decode cX5_pass 48 = .ok (.aload_n 0, 1) := by decide +kernel
theorem dX5_pass_49 : decode cX5_pass 49 = .ok (.getfield 31, 3) := by decide +kernel
theorem dX5_pass_52 : decode cX5_pass 52 = .ok (.getfield 116, 3) := by decide +kernel
theorem dX5_pass_55 : decode cX5_pass 55 = .ok (.iload_n 2, 1) := by decide +kernel
theorem dX5_pass_56 : decode cX5_pass 56 = .ok (.if_icmp .gt 29, 3) := by decide +kernel
theorem dX5_pass_59 : decode cX5_pass 59 = .ok (.aload_n 0, 1) := by decide +kernel
theorem dX5_pass_60 : decode cX5_pass 60 = .ok (.aload_n 0, 1) := by decide +kernel
theorem dX5_pass_61 : decode cX5_pass 61 = .ok (.getfield 31, 3) := by decide +kernel
theorem dX5_pass_64 : decode cX5_pass 64 = .ok (.getfield 116, 3) := by decide +kernel
theorem dX5_pass_67 : decode cX5_pass 67 = .ok (.putfield 54, 3) := by decide +kernel
theorem dX5_pass_70 : decode cX5_pass 70 = .ok (.aload_n 0, 1) := by decide +kernel
theorem dX5_pass_71 : decode cX5_pass 71 = .ok (.iconst 1, 1) := by decide +kernel
theorem dX5_pass_72 : decode cX5_pass 72 = .ok (.invokevirtual 119, 3) := by decide +kernel
theorem dX5_pass_75 : decode cX5_pass 75 = .ok (.aload_n 0, 1) := by decide +kernel
theorem dX5_pass_76 : decode cX5_pass 76 = .ok (.invokevirtual 123, 3) := by decide +kernel
theorem dX5_pass_79 : decode cX5_pass 79 = .ok (.iinc 3 1, 3) := by decide +kernel
theorem dX5_pass_82 : decode cX5_pass 82 = .ok (.goto (-50), 3) := by decide +kernel
theorem dX5_pass_85 : decode cX5_pass 85 = .ok (.aload_n 0, 1) := by decide +kernel
theorem dX5_pass_86 : decode cX5_pass 86 = .ok (.iload_n 2, 1) := by decide +kernel
theorem dX5_pass_87 : decode cX5_pass 87 = .ok (.putfield 54, 3) := by decide +kernel
theorem dX5_pass_90 : decode cX5_pass 90 = .ok (.aload_n 0, 1) := by decide +kernel
theorem dX5_pass_91 : decode cX5_pass 91 = .ok (.getfield 54, 3) := by decide +kernel
theorem dX5_pass_94 : decode cX5_pass 94 = .ok (.ireturn, 1) := by decide +kernel
theorem dX5_come_0 : decode cX5_come 0 = .ok (.aload_n 0, 1) := by decide +kernel
theorem dX5_come_1 : decode cX5_come 1 = .ok (.iload_n 1, 1) := by decide +kernel
theorem dX5_come_2 : decode cX5_come 2 = .ok (.invokevirtual 60, 3) := by decide +kernel
theorem dX5_come_5 : decode cX5_come 5 = .ok (.astore_n 3, 1) := by decide +kernel
theorem dX5_come_6 : decode cX5_come 6 = .ok (.aload_n 3, 1) := by decide +kernel
theorem dX5_come_7 : decode cX5_come 7 = .ok (.ifnonnull 5, 3) := by decide +kernel
theorem dX5_come_10 : decode cX5_come 10 = .ok (.iconst (-1), 1) := by decide +kernel
theorem dX5_come_11 : decode cX5_come 11 = .ok (.ireturn, 1) := by decide +kernel
theorem dX5_come_12 : decode cX5_come 12 = .ok (.iload_n 2, 1) := by decide +kernel
theorem dX5_come_13 : decode cX5_come 13 = .ok (.iconst 0, 1) := by decide +kernel
theorem dX5_come_14 : decode cX5_come 14 = .ok (.sipush 1000, 3) := by decide +kernel
theorem dX5_come_17 : decode cX5_come 17 = .ok (.invokestatic 46, 3) := by decide +kernel
theorem dX5_come_20 : decode cX5_come 20 = .ok (.ifCond .ne 6, 3) := by decide +kernel
theorem dX5_come_23 : decode cX5_come 23 = .ok (.bipush (-2), 2) := by decide +kernel
theorem dX5_come_25 : decode cX5_come 25 = .ok (.ireturn, 1) := by decide +kernel
theorem dX5_come_26 : decode cX5_come 26 = .ok (.aload_n 0, 1) := by decide +kernel
theorem dX5_come_27 : decode cX5_come 27 = .ok (.getfield 24, 3) := by decide +kernel
theorem dX5_come_30 : decode cX5_come 30 = .ok (.iload_n 1, 1) := by decide +kernel
theorem dX5_come_31 : decode cX5_come 31 = .ok (.invokevirtual 102, 3) := by decide +kernel
theorem dX5_come_34 : decode cX5_come 34 = .ok (.bipush (-9), 2) := by decide +kernel
theorem dX5_come_36 : decode cX5_come 36 = .ok (.if_icmp .ne 14, 3) := by decide +kernel
theorem dX5_come_39 : decode cX5_come 39 = .ok (.aload_n 0, 1) := by decide +kernel
theorem dX5_come_40 : decode cX5_come 40 = .ok (.getfield 31, 3) := by decide +kernel
theorem dX5_come_43 : decode cX5_come 43 = .ok (.iload_n 1, 1) := by decide +kernel
theorem dX5_come_44 : decode cX5_come 44 = .ok (.invokevirtual 126, 3) := by decide +kernel
theorem dX5_come_47 : decode cX5_come 47 = .ok (.ifCond .eq 6, 3) := by decide +kernel
theorem dX5_come_50 : decode cX5_come 50 = .ok (.bipush (-3), 2) := by decide +kernel
theorem dX5_come_52 : decode cX5_come 52 = .ok (.ireturn, 1) := by decide +kernel
theorem dX5_come_53 : decode cX5_come 53 = .ok (.aload_n 0, 1) := by decide +kernel
theorem dX5_come_54 : decode cX5_come 54 = .ok (.getfield 129, 3) := by decide +kernel
theorem dX5_come_57 : decode cX5_come 57 = .ok (.sipush 500, 3) := by decide +kernel
theorem dX5_come_60 : decode cX5_come 60 = .ok (.if_icmp .lt 6, 3) := by decide +kernel
theorem dX5_come_63 : decode cX5_come 63 = .ok (.bipush (-4), 2) := by decide +kernel
theorem dX5_come_65 : decode cX5_come 65 = .ok (.ireturn, 1) := by decide +kernel
theorem dX5_come_66 : decode cX5_come 66 = .ok (.aload_n 0, 1) := by decide +kernel
theorem dX5_come_67 : decode cX5_come 67 = .ok (.getfield 129, 3) := by decide +kernel
theorem dX5_come_70 : decode cX5_come 70 = .ok (.istore 4, 2) := by decide +kernel
theorem dX5_come_72 : decode cX5_come 72 = .ok (.new 15, 3) := by decide +kernel
theorem dX5_come_75 : decode cX5_come 75 = .ok (.dup, 1) := by decide +kernel
theorem dX5_come_76 : decode cX5_come 76 = .ok (.iload_n 1, 1) := by decide +kernel
theorem dX5_come_77 : decode cX5_come 77 = .ok (.aload_n 3, 1) := by decide +kernel
theorem dX5_come_78 : decode cX5_come 78 = .ok (.getfield 64, 3) := by decide +kernel
theorem dX5_come_81 : decode cX5_come 81 = .ok (.iconst 1, 1) := by decide +kernel
theorem dX5_come_82 : decode cX5_come 82 = .ok (.if_icmp .ne 7, 3) := by decide +kernel
theorem dX5_come_85 : decode cX5_come 85 = .ok (.iconst 1, 1) := by decide +kernel
theorem dX5_come_86 : decode cX5_come 86 = .ok (.goto 4, 3) := by decide +kernel
theorem dX5_come_89 : decode cX5_come 89 = .ok (.iconst 0, 1) := by decide +kernel
theorem dX5_come_90 : decode cX5_come 90 = .ok (.aload_n 0, 1) := by decide +kernel
theorem dX5_come_91 : decode cX5_come 91 = .ok (.getfield 54, 3) := by decide +kernel
theorem dX5_come_94 : decode cX5_come 94 = .ok (.iload_n 2, 1) := by decide +kernel
theorem dX5_come_95 : decode cX5_come 95 = .ok (.aload_n 3, 1) := by decide +kernel
theorem dX5_come_96 : decode cX5_come 96 = .ok (.iload_n 2, 1) := by decide +kernel
theorem dX5_come_97 : decode cX5_come 97 = .ok (.invokevirtual 132, 3) := by decide +kernel
theorem dX5_come_100 : decode cX5_come 100 = .ok (.invokespecial 135, 3) := by decide +kernel
theorem dX5_come_103 : decode cX5_come 103 = .ok (.astore 5, 2) := by decide +kernel
theorem dX5_come_105 : decode cX5_come 105 = .ok (.aload_n 0, 1) := by decide +kernel
theorem dX5_come_106 : decode cX5_come 106 = .ok (.getfield 17, 3) := by decide +kernel
theorem dX5_come_109 : decode cX5_come 109 = .ok (.iload 4, 2) := by decide +kernel
theorem dX5_come_111 : decode cX5_come 111 = .ok (.aload 5, 2) := by decide +kernel
theorem dX5_come_113 : decode cX5_come 113 = .ok (.aastore, 1) := by decide +kernel
theorem dX5_come_114 : decode cX5_come 114 = .ok (.aload_n 0, 1) := by decide +kernel
theorem dX5_come_115 : decode cX5_come 115 = .ok (.dup, 1) := by decide +kernel
theorem dX5_come_116 : decode cX5_come 116 = .ok (.getfield 129, 3) := by decide +kernel
theorem dX5_come_119 : decode cX5_come 119 = .ok (.iconst 1, 1) := by decide +kernel
theorem dX5_come_120 : decode cX5_come 120 = .ok (.iadd, 1) := by decide +kernel
theorem dX5_come_121 : decode cX5_come 121 = .ok (.putfield 129, 3) := by decide +kernel
theorem dX5_come_124 : decode cX5_come 124 = .ok (.aload_n 3, 1) := by decide +kernel
theorem dX5_come_125 : decode cX5_come 125 = .ok (.iload_n 2, 1) := by decide +kernel
theorem dX5_come_126 : decode cX5_come 126 = .ok (.invokevirtual 138, 3) := by decide +kernel
theorem dX5_come_129 : decode cX5_come 129 = .ok (.aload 5, 2) := by decide +kernel
theorem dX5_come_131 : decode cX5_come 131 = .ok (.getfield 141, 3) := by decide +kernel
theorem dX5_come_134 : decode cX5_come 134 = .ok (.ifCond .eq 13, 3) := by decide +kernel
theorem dX5_come_137 : decode cX5_come 137 = .ok (.aload_n 0, 1) := by decide +kernel
theorem dX5_come_138 : decode cX5_come 138 = .ok (.dup, 1) := by decide +kernel
theorem dX5_come_139 : decode cX5_come 139 = .ok (.getfield 144, 3) := by decide +kernel
theorem dX5_come_142 : decode cX5_come 142 = .ok (.iconst 1, 1) := by decide +kernel
theorem dX5_come_143 : decode cX5_come 143 = .ok (.iadd, 1) := by decide +kernel
theorem dX5_come_144 : decode cX5_come 144 = .ok (.putfield 144, 3) := by decide +kernel
theorem dX5_come_147 : decode cX5_come 147 = .ok (.aload_n 3, 1) := by decide +kernel
theorem dX5_come_148 : decode cX5_come 148 = .ok (.aload_n 0, 1) := by decide +kernel
theorem dX5_come_149 : decode cX5_come 149 = .ok (.getfield 54, 3) := by decide +kernel
theorem dX5_come_152 : decode cX5_come 152 = .ok (.invokevirtual 91, 3) := by decide +kernel
theorem dX5_come_155 : decode cX5_come 155 = .ok (.ifCond .eq 19, 3) := by decide +kernel
theorem dX5_come_158 : decode cX5_come 158 = .ok (.aload_n 0, 1) := by decide +kernel
theorem dX5_come_159 : decode cX5_come 159 = .ok (.getfield 24, 3) := by decide +kernel
theorem dX5_come_162 : decode cX5_come 162 = .ok (.aload 5, 2) := by decide +kernel
theorem dX5_come_164 : decode cX5_come 164 = .ok (.invokevirtual 147, 3) := by decide +kernel
theorem dX5_come_167 : decode cX5_come 167 = .ok (.aload_n 0, 1) := by decide +kernel
theorem dX5_come_168 : decode cX5_come 168 = .ok (.invokevirtual 123, 3) := by decide +kernel
theorem dX5_come_171 : decode cX5_come 171 = .ok (.goto 19, 3) := by decide +kernel
theorem dX5_come_174 : decode cX5_come 174 = .ok (.aload 5, 2) := by decide +kernel
theorem dX5_come_176 : decode cX5_come 176 = .ok (.iconst 0, 1) := by decide +kernel
theorem dX5_come_177 : decode cX5_come 177 = .ok (.putfield 151, 3) := by decide +kernel
theorem dX5_come_180 : decode cX5_come 180 = .ok (.aload_n 0, 1) := by decide +kernel
theorem dX5_come_181 : decode cX5_come 181 = .ok (.dup, 1) := by decide +kernel
theorem dX5_come_182 : decode cX5_come 182 = .ok (.getfield 152, 3) := by decide +kernel
theorem dX5_come_185 : decode cX5_come 185 = .ok (.iconst 1, 1) := by decide +kernel
theorem dX5_come_186 : decode cX5_come 186 = .ok (.iadd, 1) := by decide +kernel
theorem dX5_come_187 : decode cX5_come 187 = .ok (.putfield 152, 3) := by decide +kernel
theorem dX5_come_190 : decode cX5_come 190 = .ok (.iload 4, 2) := by decide +kernel
theorem dX5_come_192 : decode cX5_come 192 = .ok (.ireturn, 1) := by decide +kernel
theorem dX5_power_0 : decode cX5_power 0 = .ok (.aload_n 0, 1) := by decide +kernel
theorem dX5_power_1 : decode cX5_power 1 = .ok (.getfield 42, 3) := by decide +kernel
theorem dX5_power_4 : decode cX5_power 4 = .ok (.invokestatic 95, 3) := by decide +kernel
theorem dX5_power_7 : decode cX5_power 7 = .ok (.istore_n 2, 1) := by decide +kernel
theorem dX5_power_8 : decode cX5_power 8 = .ok (.aload_n 0, 1) := by decide +kernel
theorem dX5_power_9 : decode cX5_power 9 = .ok (.iload_n 1, 1) := by decide +kernel
theorem dX5_power_10 : decode cX5_power 10 = .ok (.putfield 42, 3) := by decide +kernel
theorem dX5_power_13 : decode cX5_power 13 = .ok (.iload_n 1, 1) := by decide +kernel
theorem dX5_power_14 : decode cX5_power 14 = .ok (.ifCond .eq 10, 3) := by decide +kernel
theorem dX5_power_17 : decode cX5_power 17 = .ok (.aload_n 0, 1) := by decide +kernel
theorem dX5_power_18 : decode cX5_power 18 = .ok (.invokevirtual 123, 3) := by decide +kernel
theorem dX5_power_21 : decode cX5_power 21 = .ok (.goto 8, 3) := by decide +kernel
theorem dX5_power_24 : decode cX5_power 24 = .ok (.aload_n 0, 1) := by decide +kernel
theorem dX5_power_25 : decode cX5_power 25 = .ok (.iconst 2, 1) := by decide +kernel
theorem dX5_power_26 : decode cX5_power 26 = .ok (.invokevirtual 119, 3) := by decide +kernel
theorem dX5_power_29 : decode cX5_power 29 = .ok (.iload_n 2, 1) := by decide +kernel
theorem dX5_power_30 : decode cX5_power 30 = .ok (.ireturn, 1) := by decide +kernel
theorem dX5_box_0 : decode cX5_box 0 = .ok (.aload_n 0, 1) := by decide +kernel
theorem dX5_box_1 : decode cX5_box 1 = .ok (.getfield 31, 3) := by decide +kernel
theorem dX5_box_4 : decode cX5_box 4 = .ok (.getfield 155, 3) := by decide +kernel
theorem dX5_box_7 : decode cX5_box 7 = .ok (.astore_n 1, 1) := by decide +kernel
theorem dX5_box_8 : decode cX5_box 8 = .ok (.aload_n 1, 1) := by decide +kernel
theorem dX5_box_9 : decode cX5_box 9 = .ok (.ifnonnull 8, 3) := by decide +kernel
theorem dX5_box_12 : decode cX5_box 12 = .ok (.bipush (-9), 2) := by decide +kernel
theorem dX5_box_14 : decode cX5_box 14 = .ok (.goto 7, 3) := by decide +kernel
theorem dX5_box_17 : decode cX5_box 17 = .ok (.aload_n 1, 1) := by decide +kernel
theorem dX5_box_18 : decode cX5_box 18 = .ok (.getfield 159, 3) := by decide +kernel
theorem dX5_box_21 : decode cX5_box 21 = .ok (.ireturn, 1) := by decide +kernel
theorem dX5_queue_0 : decode cX5_queue 0 = .ok (.aload_n 0, 1) := by decide +kernel
theorem dX5_queue_1 : decode cX5_queue 1 = .ok (.getfield 24, 3) := by decide +kernel
theorem dX5_queue_4 : decode cX5_queue 4 = .ok (.iload_n 1, 1) := by decide +kernel
theorem dX5_queue_5 : decode cX5_queue 5 = .ok (.invokevirtual 162, 3) := by decide +kernel
theorem dX5_queue_8 : decode cX5_queue 8 = .ok (.astore_n 2, 1) := by decide +kernel
theorem dX5_queue_9 : decode cX5_queue 9 = .ok (.aload_n 2, 1) := by decide +kernel
theorem dX5_queue_10 : decode cX5_queue 10 = .ok (.ifnonnull 8, 3) := by decide +kernel
theorem dX5_queue_13 : decode cX5_queue 13 = .ok (.bipush (-9), 2) := by decide +kernel
theorem dX5_queue_15 : decode cX5_queue 15 = .ok (.goto 7, 3) := by decide +kernel
theorem dX5_queue_18 : decode cX5_queue 18 = .ok (.aload_n 2, 1) := by decide +kernel
theorem dX5_queue_19 : decode cX5_queue 19 = .ok (.getfield 159, 3) := by decide +kernel
theorem dX5_queue_22 : decode cX5_queue 22 = .ok (.ireturn, 1) := by decide +kernel
theorem dX5_ends_0 : decode cX5_ends 0 = .ok (.aload_n 0, 1) := by decide +kernel
theorem dX5_ends_1 : decode cX5_ends 1 = .ok (.getfield 31, 3) := by decide +kernel
theorem dX5_ends_4 : decode cX5_ends 4 = .ok (.invokevirtual 112, 3) := by decide +kernel
theorem dX5_ends_7 : decode cX5_ends 7 = .ok (.ifCond .eq 13, 3) := by decide +kernel
theorem dX5_ends_10 : decode cX5_ends 10 = .ok (.aload_n 0, 1) := by decide +kernel
theorem dX5_ends_11 : decode cX5_ends 11 = .ok (.getfield 31, 3) := by decide +kernel
theorem dX5_ends_14 : decode cX5_ends 14 = .ok (.getfield 116, 3) := by decide +kernel
theorem dX5_ends_17 : decode cX5_ends 17 = .ok (.goto 5, 3) := by decide +kernel
theorem dX5_ends_20 : decode cX5_ends 20 = .ok (.bipush (-9), 2) := by decide +kernel
theorem dX5_ends_22 : decode cX5_ends 22 = .ok (.ireturn, 1) := by decide +kernel
theorem dX5_room_0 : decode cX5_room 0 = .ok (.iload_n 1, 1) := by decide +kernel
theorem dX5_room_1 : decode cX5_room 1 = .ok (.iconst 1, 1) := by decide +kernel
theorem dX5_room_2 : decode cX5_room 2 = .ok (.ldc 111, 2) := by decide +kernel
theorem dX5_room_4 : decode cX5_room 4 = .ok (.invokestatic 46, 3) := by decide +kernel
theorem dX5_room_7 : decode cX5_room 7 = .ok (.ifCond .ne 6, 3) := by decide +kernel
theorem dX5_room_10 : decode cX5_room 10 = .ok (.bipush (-2), 2) := by decide +kernel
theorem dX5_room_12 : decode cX5_room 12 = .ok (.ireturn, 1) := by decide +kernel
theorem dX5_room_13 : decode cX5_room 13 = .ok (.aload_n 0, 1) := by decide +kernel
theorem dX5_room_14 : decode cX5_room 14 = .ok (.getfield 38, 3) := by decide +kernel
theorem dX5_room_17 : decode cX5_room 17 = .ok (.getfield 166, 3) := by decide +kernel
theorem dX5_room_20 : decode cX5_room 20 = .ok (.iload_n 1, 1) := by decide +kernel
theorem dX5_room_21 : decode cX5_room 21 = .ok (.if_icmp .le 6, 3) := by decide +kernel
theorem dX5_room_24 : decode cX5_room 24 = .ok (.bipush (-3), 2) := by decide +kernel
theorem dX5_room_26 : decode cX5_room 26 = .ok (.ireturn, 1) := by decide +kernel
theorem dX5_room_27 : decode cX5_room 27 = .ok (.aload_n 0, 1) := by decide +kernel
theorem dX5_room_28 : decode cX5_room 28 = .ok (.getfield 38, 3) := by decide +kernel
theorem dX5_room_31 : decode cX5_room 31 = .ok (.getfield 169, 3) := by decide +kernel
theorem dX5_room_34 : decode cX5_room 34 = .ok (.istore_n 2, 1) := by decide +kernel
theorem dX5_room_35 : decode cX5_room 35 = .ok (.aload_n 0, 1) := by decide +kernel
theorem dX5_room_36 : decode cX5_room 36 = .ok (.getfield 38, 3) := by decide +kernel
theorem dX5_room_39 : decode cX5_room 39 = .ok (.iload_n 1, 1) := by decide +kernel
theorem dX5_room_40 : decode cX5_room 40 = .ok (.putfield 169, 3) := by decide +kernel
theorem dX5_room_43 : decode cX5_room 43 = .ok (.iload_n 2, 1) := by decide +kernel
theorem dX5_room_44 : decode cX5_room 44 = .ok (.ireturn, 1) := by decide +kernel
theorem dX5_pick_0 : decode cX5_pick 0 = .ok (.iload_n 1, 1) := by decide +kernel
theorem dX5_pick_1 : decode cX5_pick 1 = .ok (.iconst 1, 1) := by decide +kernel
theorem dX5_pick_2 : decode cX5_pick 2 = .ok (.ldc 111, 2) := by decide +kernel
theorem dX5_pick_4 : decode cX5_pick 4 = .ok (.invokestatic 46, 3) := by decide +kernel
theorem dX5_pick_7 : decode cX5_pick 7 = .ok (.ifCond .ne 6, 3) := by decide +kernel
theorem dX5_pick_10 : decode cX5_pick 10 = .ok (.bipush (-2), 2) := by decide +kernel
theorem dX5_pick_12 : decode cX5_pick 12 = .ok (.ireturn, 1) := by decide +kernel
theorem dX5_pick_13 : decode cX5_pick 13 = .ok (.aload_n 0, 1) := by decide +kernel
theorem dX5_pick_14 : decode cX5_pick 14 = .ok (.getfield 38, 3) := by decide +kernel
theorem dX5_pick_17 : decode cX5_pick 17 = .ok (.iload_n 1, 1) := by decide +kernel
theorem dX5_pick_18 : decode cX5_pick 18 = .ok (.invokevirtual 172, 3) := by decide +kernel
theorem dX5_pick_21 : decode cX5_pick 21 = .ok (.ireturn, 1) := by decide +kernel
theorem dX5_total_0 : decode cX5_total 0 = .ok (.iload_n 1, 1) := by decide +kernel
theorem dX5_total_1 : decode cX5_total 1 = .ok (.tableswitch 150 0 12 #[67, 75, 83, 91, 99, 104, 109, 114, 119, 124, 132, 137, 145], 67) := by decide +kernel
theorem dX5_total_68 : decode cX5_total 68 = .ok (.aload_n 0, 1) := by decide +kernel
theorem dX5_total_69 : decode cX5_total 69 = .ok (.getfield 38, 3) := by decide +kernel
theorem dX5_total_72 : decode cX5_total 72 = .ok (.getfield 166, 3) := by decide +kernel
theorem dX5_total_75 : decode cX5_total 75 = .ok (.ireturn, 1) := by decide +kernel
theorem dX5_total_76 : decode cX5_total 76 = .ok (.aload_n 0, 1) := by decide +kernel
theorem dX5_total_77 : decode cX5_total 77 = .ok (.getfield 38, 3) := by decide +kernel
theorem dX5_total_80 : decode cX5_total 80 = .ok (.getfield 175, 3) := by decide +kernel
theorem dX5_total_83 : decode cX5_total 83 = .ok (.ireturn, 1) := by decide +kernel
theorem dX5_total_84 : decode cX5_total 84 = .ok (.aload_n 0, 1) := by decide +kernel
theorem dX5_total_85 : decode cX5_total 85 = .ok (.getfield 38, 3) := by decide +kernel
theorem dX5_total_88 : decode cX5_total 88 = .ok (.getfield 178, 3) := by decide +kernel
theorem dX5_total_91 : decode cX5_total 91 = .ok (.ireturn, 1) := by decide +kernel
theorem dX5_total_92 : decode cX5_total 92 = .ok (.aload_n 0, 1) := by decide +kernel
theorem dX5_total_93 : decode cX5_total 93 = .ok (.getfield 38, 3) := by decide +kernel
theorem dX5_total_96 : decode cX5_total 96 = .ok (.getfield 181, 3) := by decide +kernel
theorem dX5_total_99 : decode cX5_total 99 = .ok (.ireturn, 1) := by decide +kernel
theorem dX5_total_100 : decode cX5_total 100 = .ok (.aload_n 0, 1) := by decide +kernel
theorem dX5_total_101 : decode cX5_total 101 = .ok (.getfield 184, 3) := by decide +kernel
theorem dX5_total_104 : decode cX5_total 104 = .ok (.ireturn, 1) := by decide +kernel
theorem dX5_total_105 : decode cX5_total 105 = .ok (.aload_n 0, 1) := by decide +kernel
theorem dX5_total_106 : decode cX5_total 106 = .ok (.getfield 187, 3) := by decide +kernel
theorem dX5_total_109 : decode cX5_total 109 = .ok (.ireturn, 1) := by decide +kernel
theorem dX5_total_110 : decode cX5_total 110 = .ok (.aload_n 0, 1) := by decide +kernel
theorem dX5_total_111 : decode cX5_total 111 = .ok (.getfield 54, 3) := by decide +kernel
theorem dX5_total_114 : decode cX5_total 114 = .ok (.ireturn, 1) := by decide +kernel
theorem dX5_total_115 : decode cX5_total 115 = .ok (.aload_n 0, 1) := by decide +kernel
theorem dX5_total_116 : decode cX5_total 116 = .ok (.getfield 50, 3) := by decide +kernel
theorem dX5_total_119 : decode cX5_total 119 = .ok (.ireturn, 1) := by decide +kernel
theorem dX5_total_120 : decode cX5_total 120 = .ok (.aload_n 0, 1) := by decide +kernel
theorem dX5_total_121 : decode cX5_total 121 = .ok (.getfield 129, 3) := by decide +kernel
theorem dX5_total_124 : decode cX5_total 124 = .ok (.ireturn, 1) := by decide +kernel
theorem dX5_total_125 : decode cX5_total 125 = .ok (.aload_n 0, 1) := by decide +kernel
theorem dX5_total_126 : decode cX5_total 126 = .ok (.getfield 24, 3) := by decide +kernel
theorem dX5_total_129 : decode cX5_total 129 = .ok (.getfield 190, 3) := by decide +kernel
theorem dX5_total_132 : decode cX5_total 132 = .ok (.ireturn, 1) := by decide +kernel
theorem dX5_total_133 : decode cX5_total 133 = .ok (.aload_n 0, 1) := by decide +kernel
theorem dX5_total_134 : decode cX5_total 134 = .ok (.getfield 144, 3) := by decide +kernel
theorem dX5_total_137 : decode cX5_total 137 = .ok (.ireturn, 1) := by decide +kernel
theorem dX5_total_138 : decode cX5_total 138 = .ok (.aload_n 0, 1) := by decide +kernel
theorem dX5_total_139 : decode cX5_total 139 = .ok (.getfield 42, 3) := by decide +kernel
theorem dX5_total_142 : decode cX5_total 142 = .ok (.invokestatic 95, 3) := by decide +kernel
theorem dX5_total_145 : decode cX5_total 145 = .ok (.ireturn, 1) := by decide +kernel
theorem dX5_total_146 : decode cX5_total 146 = .ok (.aload_n 0, 1) := by decide +kernel
theorem dX5_total_147 : decode cX5_total 147 = .ok (.getfield 152, 3) := by decide +kernel
theorem dX5_total_150 : decode cX5_total 150 = .ok (.ireturn, 1) := by decide +kernel
theorem dX5_total_151 : decode cX5_total 151 = .ok (.bipush (-2), 2) := by decide +kernel
theorem dX5_total_153 : decode cX5_total 153 = .ok (.ireturn, 1) := by decide +kernel
theorem dX5_visit_0 : decode cX5_visit 0 = .ok (.aload_n 0, 1) := by decide +kernel
theorem dX5_visit_1 : decode cX5_visit 1 = .ok (.iload_n 1, 1) := by decide +kernel
theorem dX5_visit_2 : decode cX5_visit 2 = .ok (.invokevirtual 193, 3) := by decide +kernel
theorem dX5_visit_5 : decode cX5_visit 5 = .ok (.astore 4, 2) := by decide +kernel
theorem dX5_visit_7 : decode cX5_visit 7 = .ok (.aload 4, 2) := by decide +kernel
theorem dX5_visit_9 : decode cX5_visit 9 = .ok (.ifnonnull 5, 3) := by decide +kernel
theorem dX5_visit_12 : decode cX5_visit 12 = .ok (.iconst (-1), 1) := by decide +kernel
theorem dX5_visit_13 : decode cX5_visit 13 = .ok (.ireturn, 1) := by decide +kernel
theorem dX5_visit_14 : decode cX5_visit 14 = .ok (.iload_n 2, 1) := by decide +kernel
theorem dX5_visit_15 : decode cX5_visit 15 = .ok (.iconst 0, 1) := by decide +kernel
theorem dX5_visit_16 : decode cX5_visit 16 = .ok (.iconst 3, 1) := by decide +kernel
theorem dX5_visit_17 : decode cX5_visit 17 = .ok (.invokestatic 46, 3) := by decide +kernel
theorem dX5_visit_20 : decode cX5_visit 20 = .ok (.ifCond .eq 13, 3) := by decide +kernel
theorem dX5_visit_23 : decode cX5_visit 23 = .ok (.iload_n 3, 1) := by decide +kernel
theorem dX5_visit_24 : decode cX5_visit 24 = .ok (.iconst 0, 1) := by decide +kernel
theorem dX5_visit_25 : decode cX5_visit 25 = .ok (.bipush 10, 2) := by decide +kernel
theorem dX5_visit_27 : decode cX5_visit 27 = .ok (.invokestatic 46, 3) := by decide +kernel
theorem dX5_visit_30 : decode cX5_visit 30 = .ok (.ifCond .ne 6, 3) := by decide +kernel
theorem dX5_visit_33 : decode cX5_visit 33 = .ok (.bipush (-2), 2) := by decide +kernel
theorem dX5_visit_35 : decode cX5_visit 35 = .ok (.ireturn, 1) := by decide +kernel
theorem dX5_visit_36 : decode cX5_visit 36 = .ok (.aload 4, 2) := by decide +kernel
theorem dX5_visit_38 : decode cX5_visit 38 = .ok (.iload_n 2, 1) := by decide +kernel
theorem dX5_visit_39 : decode cX5_visit 39 = .ok (.invokevirtual 196, 3) := by decide +kernel
theorem dX5_visit_42 : decode cX5_visit 42 = .ok (.ifCond .ne 6, 3) := by decide +kernel
theorem dX5_visit_45 : decode cX5_visit 45 = .ok (.bipush (-13), 2) := by decide +kernel
theorem dX5_visit_47 : decode cX5_visit 47 = .ok (.ireturn, 1) := by decide +kernel
theorem dX5_visit_48 : decode cX5_visit 48 = .ok (.aload 4, 2) := by decide +kernel
theorem dX5_visit_50 : decode cX5_visit 50 = .ok (.iload_n 3, 1) := by decide +kernel
theorem dX5_visit_51 : decode cX5_visit 51 = .ok (.invokevirtual 199, 3) := by decide +kernel
theorem dX5_visit_54 : decode cX5_visit 54 = .ok (.ireturn, 1) := by decide +kernel
theorem dX5_visitOf_0 : decode cX5_visitOf 0 = .ok (.aload_n 0, 1) := by decide +kernel
theorem dX5_visitOf_1 : decode cX5_visitOf 1 = .ok (.iload_n 1, 1) := by decide +kernel
theorem dX5_visitOf_2 : decode cX5_visitOf 2 = .ok (.invokevirtual 60, 3) := by decide +kernel
theorem dX5_visitOf_5 : decode cX5_visitOf 5 = .ok (.ifnonnull 5, 3) := by decide +kernel
theorem dX5_visitOf_8 : decode cX5_visitOf 8 = .ok (.iconst (-1), 1) := by decide +kernel
theorem dX5_visitOf_9 : decode cX5_visitOf 9 = .ok (.ireturn, 1) := by decide +kernel
theorem dX5_visitOf_10 : decode cX5_visitOf 10 = .ok (.iconst 0, 1) := by decide +kernel
theorem dX5_visitOf_11 : decode cX5_visitOf 11 = .ok (.istore_n 3, 1) := by decide +kernel
theorem dX5_visitOf_12 : decode cX5_visitOf 12 = .ok (.iconst 0, 1) := by decide +kernel
theorem dX5_visitOf_13 : decode cX5_visitOf 13 = .ok (.istore 4, 2) := by decide +kernel
theorem dX5_visitOf_15 : decode cX5_visitOf 15 = .ok (.iload 4, 2) := by decide +kernel
theorem dX5_visitOf_17 : decode cX5_visitOf 17 = .ok (.aload_n 0, 1) := by decide +kernel
theorem dX5_visitOf_18 : decode cX5_visitOf 18 = .ok (.getfield 129, 3) := by decide +kernel
theorem dX5_visitOf_21 : decode cX5_visitOf 21 = .ok (.if_icmp .ge 42, 3) := by decide +kernel
theorem dX5_visitOf_24 : decode cX5_visitOf 24 = .ok (.aload_n 0, 1) := by decide +kernel
theorem dX5_visitOf_25 : decode cX5_visitOf 25 = .ok (.iload 4, 2) := by decide +kernel
theorem dX5_visitOf_27 : decode cX5_visitOf 27 = .ok (.invokevirtual 193, 3) := by decide +kernel
theorem dX5_visitOf_30 : decode cX5_visitOf 30 = .ok (.astore 5, 2) := by decide +kernel
theorem dX5_visitOf_32 : decode cX5_visitOf 32 = .ok (.aload 5, 2) := by decide +kernel
theorem dX5_visitOf_34 : decode cX5_visitOf 34 = .ok (.ifnull 23, 3) := by decide +kernel
theorem dX5_visitOf_37 : decode cX5_visitOf 37 = .ok (.aload 5, 2) := by decide +kernel
theorem dX5_visitOf_39 : decode cX5_visitOf 39 = .ok (.getfield 159, 3) := by decide +kernel
theorem dX5_visitOf_42 : decode cX5_visitOf 42 = .ok (.iload_n 1, 1) := by decide +kernel
theorem dX5_visitOf_43 : decode cX5_visitOf 43 = .ok (.if_icmp .ne 14, 3) := by decide +kernel
theorem dX5_visitOf_46 : decode cX5_visitOf 46 = .ok (.iload_n 3, 1) := by decide +kernel
theorem dX5_visitOf_47 : decode cX5_visitOf 47 = .ok (.iload_n 2, 1) := by decide +kernel
theorem dX5_visitOf_48 : decode cX5_visitOf 48 = .ok (.if_icmp .ne 6, 3) := by decide +kernel
theorem dX5_visitOf_51 : decode cX5_visitOf 51 = .ok (.iload 4, 2) := by decide +kernel
theorem dX5_visitOf_53 : decode cX5_visitOf 53 = .ok (.ireturn, 1) := by decide +kernel
theorem dX5_visitOf_54 : decode cX5_visitOf 54 = .ok (.iinc 3 1, 3) := by decide +kernel
theorem dX5_visitOf_57 : decode cX5_visitOf 57 = .ok (.iinc 4 1, 3) := by decide +kernel
theorem dX5_visitOf_60 : decode cX5_visitOf 60 = .ok (.goto (-45), 3) := by decide +kernel
theorem dX5_visitOf_63 : decode cX5_visitOf 63 = .ok (.bipush (-9), 2) := by decide +kernel
theorem dX5_visitOf_65 : decode cX5_visitOf 65 = .ok (.ireturn, 1) := by decide +kernel
theorem dX5_gave_0 : decode cX5_gave 0 = .ok (.aload_n 0, 1) := by decide +kernel
theorem dX5_gave_1 : decode cX5_gave 1 = .ok (.iload_n 1, 1) := by decide +kernel
theorem dX5_gave_2 : decode cX5_gave 2 = .ok (.invokevirtual 60, 3) := by decide +kernel
theorem dX5_gave_5 : decode cX5_gave 5 = .ok (.ifnonnull 5, 3) := by decide +kernel
theorem dX5_gave_8 : decode cX5_gave 8 = .ok (.iconst (-1), 1) := by decide +kernel
theorem dX5_gave_9 : decode cX5_gave 9 = .ok (.ireturn, 1) := by decide +kernel
theorem dX5_gave_10 : decode cX5_gave 10 = .ok (.iload_n 2, 1) := by decide +kernel
theorem dX5_gave_11 : decode cX5_gave 11 = .ok (.ifCond .ge 6, 3) := by decide +kernel
theorem dX5_gave_14 : decode cX5_gave 14 = .ok (.bipush (-2), 2) := by decide +kernel
theorem dX5_gave_16 : decode cX5_gave 16 = .ok (.ireturn, 1) := by decide +kernel
theorem dX5_gave_17 : decode cX5_gave 17 = .ok (.iconst 0, 1) := by decide +kernel
theorem dX5_gave_18 : decode cX5_gave 18 = .ok (.istore_n 3, 1) := by decide +kernel
theorem dX5_gave_19 : decode cX5_gave 19 = .ok (.iconst 0, 1) := by decide +kernel
theorem dX5_gave_20 : decode cX5_gave 20 = .ok (.istore 4, 2) := by decide +kernel
theorem dX5_gave_22 : decode cX5_gave 22 = .ok (.iload 4, 2) := by decide +kernel
theorem dX5_gave_24 : decode cX5_gave 24 = .ok (.aload_n 0, 1) := by decide +kernel
theorem dX5_gave_25 : decode cX5_gave 25 = .ok (.getfield 129, 3) := by decide +kernel
theorem dX5_gave_28 : decode cX5_gave 28 = .ok (.if_icmp .ge 48, 3) := by decide +kernel
theorem dX5_gave_31 : decode cX5_gave 31 = .ok (.aload_n 0, 1) := by decide +kernel
theorem dX5_gave_32 : decode cX5_gave 32 = .ok (.iload 4, 2) := by decide +kernel
theorem dX5_gave_34 : decode cX5_gave 34 = .ok (.invokevirtual 193, 3) := by decide +kernel
theorem dX5_gave_37 : decode cX5_gave 37 = .ok (.astore 5, 2) := by decide +kernel
theorem dX5_gave_39 : decode cX5_gave 39 = .ok (.aload 5, 2) := by decide +kernel
theorem dX5_gave_41 : decode cX5_gave 41 = .ok (.ifnull 29, 3) := by decide +kernel
theorem dX5_gave_44 : decode cX5_gave 44 = .ok (.aload 5, 2) := by decide +kernel
theorem dX5_gave_46 : decode cX5_gave 46 = .ok (.getfield 159, 3) := by decide +kernel
theorem dX5_gave_49 : decode cX5_gave 49 = .ok (.iload_n 1, 1) := by decide +kernel
theorem dX5_gave_50 : decode cX5_gave 50 = .ok (.if_icmp .ne 20, 3) := by decide +kernel
theorem dX5_gave_53 : decode cX5_gave 53 = .ok (.aload 5, 2) := by decide +kernel
theorem dX5_gave_55 : decode cX5_gave 55 = .ok (.iload_n 2, 1) := by decide +kernel
theorem dX5_gave_56 : decode cX5_gave 56 = .ok (.invokevirtual 202, 3) := by decide +kernel
theorem dX5_gave_59 : decode cX5_gave 59 = .ok (.ifCond .eq 11, 3) := by decide +kernel
theorem dX5_gave_62 : decode cX5_gave 62 = .ok (.iload_n 3, 1) := by decide +kernel
theorem dX5_gave_63 : decode cX5_gave 63 = .ok (.aload 5, 2) := by decide +kernel
theorem dX5_gave_65 : decode cX5_gave 65 = .ok (.getfield 205, 3) := by decide +kernel
theorem dX5_gave_68 : decode cX5_gave 68 = .ok (.iadd, 1) := by decide +kernel
theorem dX5_gave_69 : decode cX5_gave 69 = .ok (.istore_n 3, 1) := by decide +kernel
theorem dX5_gave_70 : decode cX5_gave 70 = .ok (.iinc 4 1, 3) := by decide +kernel
theorem dX5_gave_73 : decode cX5_gave 73 = .ok (.goto (-51), 3) := by decide +kernel
theorem dX5_gave_76 : decode cX5_gave 76 = .ok (.iload_n 3, 1) := by decide +kernel
theorem dX5_gave_77 : decode cX5_gave 77 = .ok (.ireturn, 1) := by decide +kernel
theorem dX5_longest_0 : decode cX5_longest 0 = .ok (.aload_n 0, 1) := by decide +kernel
theorem dX5_longest_1 : decode cX5_longest 1 = .ok (.getfield 208, 3) := by decide +kernel
theorem dX5_longest_4 : decode cX5_longest 4 = .ok (.ireturn, 1) := by decide +kernel
theorem dX5_rank_0 : decode cX5_rank 0 = .ok (.iconst 0, 1) := by decide +kernel
theorem dX5_rank_1 : decode cX5_rank 1 = .ok (.istore_n 2, 1) := by decide +kernel
theorem dX5_rank_2 : decode cX5_rank 2 = .ok (.iload_n 2, 1) := by decide +kernel
theorem dX5_rank_3 : decode cX5_rank 3 = .ok (.aload_n 0, 1) := by decide +kernel
theorem dX5_rank_4 : decode cX5_rank 4 = .ok (.getfield 50, 3) := by decide +kernel
theorem dX5_rank_7 : decode cX5_rank 7 = .ok (.if_icmp .ge 20, 3) := by decide +kernel
theorem dX5_rank_10 : decode cX5_rank 10 = .ok (.aload_n 0, 1) := by decide +kernel
theorem dX5_rank_11 : decode cX5_rank 11 = .ok (.iload_n 2, 1) := by decide +kernel
theorem dX5_rank_12 : decode cX5_rank 12 = .ok (.invokevirtual 211, 3) := by decide +kernel
theorem dX5_rank_15 : decode cX5_rank 15 = .ok (.iload_n 1, 1) := by decide +kernel
theorem dX5_rank_16 : decode cX5_rank 16 = .ok (.if_icmp .ne 5, 3) := by decide +kernel
theorem dX5_rank_19 : decode cX5_rank 19 = .ok (.iload_n 2, 1) := by decide +kernel
theorem dX5_rank_20 : decode cX5_rank 20 = .ok (.ireturn, 1) := by decide +kernel
theorem dX5_rank_21 : decode cX5_rank 21 = .ok (.iinc 2 1, 3) := by decide +kernel
theorem dX5_rank_24 : decode cX5_rank 24 = .ok (.goto (-22), 3) := by decide +kernel
theorem dX5_rank_27 : decode cX5_rank 27 = .ok (.bipush (-9), 2) := by decide +kernel
theorem dX5_rank_29 : decode cX5_rank 29 = .ok (.ireturn, 1) := by decide +kernel
theorem dX5_until_0 : decode cX5_until 0 = .ok (.aload_n 0, 1) := by decide +kernel
theorem dX5_until_1 : decode cX5_until 1 = .ok (.iload_n 1, 1) := by decide +kernel
theorem dX5_until_2 : decode cX5_until 2 = .ok (.invokevirtual 60, 3) := by decide +kernel
theorem dX5_until_5 : decode cX5_until 5 = .ok (.astore_n 3, 1) := by decide +kernel
theorem dX5_until_6 : decode cX5_until 6 = .ok (.aload_n 3, 1) := by decide +kernel
theorem dX5_until_7 : decode cX5_until 7 = .ok (.ifnonnull 5, 3) := by decide +kernel
theorem dX5_until_10 : decode cX5_until 10 = .ok (.iconst (-1), 1) := by decide +kernel
theorem dX5_until_11 : decode cX5_until 11 = .ok (.ireturn, 1) := by decide +kernel
theorem dX5_until_12 : decode cX5_until 12 = .ok (.iload_n 2, 1) := by decide +kernel
theorem dX5_until_13 : decode cX5_until 13 = .ok (.iconst 1, 1) := by decide +kernel
theorem dX5_until_14 : decode cX5_until 14 = .ok (.sipush 400, 3) := by decide +kernel
theorem dX5_until_17 : decode cX5_until 17 = .ok (.invokestatic 46, 3) := by decide +kernel
theorem dX5_until_20 : decode cX5_until 20 = .ok (.ifCond .ne 6, 3) := by decide +kernel
theorem dX5_until_23 : decode cX5_until 23 = .ok (.bipush (-2), 2) := by decide +kernel
theorem dX5_until_25 : decode cX5_until 25 = .ok (.ireturn, 1) := by decide +kernel
theorem dX5_until_26 : decode cX5_until 26 = .ok (.aload_n 0, 1) := by decide +kernel
theorem dX5_until_27 : decode cX5_until 27 = .ok (.getfield 31, 3) := by decide +kernel
theorem dX5_until_30 : decode cX5_until 30 = .ok (.iload_n 1, 1) := by decide +kernel
theorem dX5_until_31 : decode cX5_until 31 = .ok (.invokevirtual 126, 3) := by decide +kernel
theorem dX5_until_34 : decode cX5_until 34 = .ok (.ifCond .eq 6, 3) := by decide +kernel
theorem dX5_until_37 : decode cX5_until 37 = .ok (.bipush (-9), 2) := by decide +kernel
theorem dX5_until_39 : decode cX5_until 39 = .ok (.ireturn, 1) := by decide +kernel
theorem dX5_until_40 : decode cX5_until 40 = .ok (.aload_n 3, 1) := by decide +kernel
theorem dX5_until_41 : decode cX5_until 41 = .ok (.iload_n 2, 1) := by decide +kernel
theorem dX5_until_42 : decode cX5_until 42 = .ok (.aload_n 0, 1) := by decide +kernel
theorem dX5_until_43 : decode cX5_until 43 = .ok (.getfield 54, 3) := by decide +kernel
theorem dX5_until_46 : decode cX5_until 46 = .ok (.invokevirtual 214, 3) := by decide +kernel
theorem dX5_until_49 : decode cX5_until 49 = .ok (.ireturn, 1) := by decide +kernel
theorem dX5_within_0 : decode cX5_within 0 = .ok (.iload_n 0, 1) := by decide +kernel
theorem dX5_within_1 : decode cX5_within 1 = .ok (.iload_n 1, 1) := by decide +kernel
theorem dX5_within_2 : decode cX5_within 2 = .ok (.if_icmp .lt 12, 3) := by decide +kernel
theorem dX5_within_5 : decode cX5_within 5 = .ok (.iload_n 0, 1) := by decide +kernel
theorem dX5_within_6 : decode cX5_within 6 = .ok (.iload_n 2, 1) := by decide +kernel
theorem dX5_within_7 : decode cX5_within 7 = .ok (.if_icmp .gt 7, 3) := by decide +kernel
theorem dX5_within_10 : decode cX5_within 10 = .ok (.iconst 1, 1) := by decide +kernel
theorem dX5_within_11 : decode cX5_within 11 = .ok (.goto 4, 3) := by decide +kernel
theorem dX5_within_14 : decode cX5_within 14 = .ok (.iconst 0, 1) := by decide +kernel
theorem dX5_within_15 : decode cX5_within 15 = .ok (.ireturn, 1) := by decide +kernel
theorem dX5_asNumber_0 : decode cX5_asNumber 0 = .ok (.iload_n 0, 1) := by decide +kernel
theorem dX5_asNumber_1 : decode cX5_asNumber 1 = .ok (.ifCond .eq 7, 3) := by decide +kernel
theorem dX5_asNumber_4 : decode cX5_asNumber 4 = .ok (.iconst 1, 1) := by decide +kernel
theorem dX5_asNumber_5 : decode cX5_asNumber 5 = .ok (.goto 4, 3) := by decide +kernel
theorem dX5_asNumber_8 : decode cX5_asNumber 8 = .ok (.iconst 0, 1) := by decide +kernel
theorem dX5_asNumber_9 : decode cX5_asNumber 9 = .ok (.ireturn, 1) := by decide +kernel
theorem dX5_cowAt_0 : decode cX5_cowAt 0 = .ok (.iload_n 1, 1) := by decide +kernel
theorem dX5_cowAt_1 : decode cX5_cowAt 1 = .ok (.iconst 0, 1) := by decide +kernel
theorem dX5_cowAt_2 : decode cX5_cowAt 2 = .ok (.aload_n 0, 1) := by decide +kernel
theorem dX5_cowAt_3 : decode cX5_cowAt 3 = .ok (.getfield 50, 3) := by decide +kernel
theorem dX5_cowAt_6 : decode cX5_cowAt 6 = .ok (.iconst 1, 1) := by decide +kernel
theorem dX5_cowAt_7 : decode cX5_cowAt 7 = .ok (.isub, 1) := by decide +kernel
theorem dX5_cowAt_8 : decode cX5_cowAt 8 = .ok (.invokestatic 46, 3) := by decide +kernel
theorem dX5_cowAt_11 : decode cX5_cowAt 11 = .ok (.ifCond .eq 21, 3) := by decide +kernel
theorem dX5_cowAt_14 : decode cX5_cowAt 14 = .ok (.iload_n 1, 1) := by decide +kernel
theorem dX5_cowAt_15 : decode cX5_cowAt 15 = .ok (.aload_n 0, 1) := by decide +kernel
theorem dX5_cowAt_16 : decode cX5_cowAt 16 = .ok (.getfield 11, 3) := by decide +kernel
theorem dX5_cowAt_19 : decode cX5_cowAt 19 = .ok (.arraylength, 1) := by decide +kernel
theorem dX5_cowAt_20 : decode cX5_cowAt 20 = .ok (.if_icmp .ge 12, 3) := by decide +kernel
theorem dX5_cowAt_23 : decode cX5_cowAt 23 = .ok (.aload_n 0, 1) := by decide +kernel
theorem dX5_cowAt_24 : decode cX5_cowAt 24 = .ok (.getfield 11, 3) := by decide +kernel
theorem dX5_cowAt_27 : decode cX5_cowAt 27 = .ok (.iload_n 1, 1) := by decide +kernel
theorem dX5_cowAt_28 : decode cX5_cowAt 28 = .ok (.aaload, 1) := by decide +kernel
theorem dX5_cowAt_29 : decode cX5_cowAt 29 = .ok (.goto 4, 3) := by decide +kernel
theorem dX5_cowAt_32 : decode cX5_cowAt 32 = .ok (.aconst_null, 1) := by decide +kernel
theorem dX5_cowAt_33 : decode cX5_cowAt 33 = .ok (.areturn, 1) := by decide +kernel
theorem dX5_visitAt_0 : decode cX5_visitAt 0 = .ok (.iload_n 1, 1) := by decide +kernel
theorem dX5_visitAt_1 : decode cX5_visitAt 1 = .ok (.iconst 0, 1) := by decide +kernel
theorem dX5_visitAt_2 : decode cX5_visitAt 2 = .ok (.aload_n 0, 1) := by decide +kernel
theorem dX5_visitAt_3 : decode cX5_visitAt 3 = .ok (.getfield 129, 3) := by decide +kernel
theorem dX5_visitAt_6 : decode cX5_visitAt 6 = .ok (.iconst 1, 1) := by decide +kernel
theorem dX5_visitAt_7 : decode cX5_visitAt 7 = .ok (.isub, 1) := by decide +kernel
theorem dX5_visitAt_8 : decode cX5_visitAt 8 = .ok (.invokestatic 46, 3) := by decide +kernel
theorem dX5_visitAt_11 : decode cX5_visitAt 11 = .ok (.ifCond .eq 21, 3) := by decide +kernel
theorem dX5_visitAt_14 : decode cX5_visitAt 14 = .ok (.iload_n 1, 1) := by decide +kernel
theorem dX5_visitAt_15 : decode cX5_visitAt 15 = .ok (.aload_n 0, 1) := by decide +kernel
theorem dX5_visitAt_16 : decode cX5_visitAt 16 = .ok (.getfield 17, 3) := by decide +kernel
theorem dX5_visitAt_19 : decode cX5_visitAt 19 = .ok (.arraylength, 1) := by decide +kernel
theorem dX5_visitAt_20 : decode cX5_visitAt 20 = .ok (.if_icmp .ge 12, 3) := by decide +kernel
theorem dX5_visitAt_23 : decode cX5_visitAt 23 = .ok (.aload_n 0, 1) := by decide +kernel
theorem dX5_visitAt_24 : decode cX5_visitAt 24 = .ok (.getfield 17, 3) := by decide +kernel
theorem dX5_visitAt_27 : decode cX5_visitAt 27 = .ok (.iload_n 1, 1) := by decide +kernel
theorem dX5_visitAt_28 : decode cX5_visitAt 28 = .ok (.aaload, 1) := by decide +kernel
theorem dX5_visitAt_29 : decode cX5_visitAt 29 = .ok (.goto 4, 3) := by decide +kernel
theorem dX5_visitAt_32 : decode cX5_visitAt 32 = .ok (.aconst_null, 1) := by decide +kernel
theorem dX5_visitAt_33 : decode cX5_visitAt 33 = .ok (.areturn, 1) := by decide +kernel
theorem dX5_fillBox_0 : decode cX5_fillBox 0 = .ok (.aload_n 0, 1) := by decide +kernel
theorem dX5_fillBox_1 : decode cX5_fillBox 1 = .ok (.getfield 42, 3) := by decide +kernel
theorem dX5_fillBox_4 : decode cX5_fillBox 4 = .ok (.ifCond .eq 13, 3) := by decide +kernel
theorem dX5_fillBox_7 : decode cX5_fillBox 7 = .ok (.aload_n 0, 1) := by decide +kernel
theorem dX5_fillBox_8 : decode cX5_fillBox 8 = .ok (.getfield 31, 3) := by decide +kernel
theorem dX5_fillBox_11 : decode cX5_fillBox 11 = .ok (.invokevirtual 112, 3) := by decide +kernel
theorem dX5_fillBox_14 : decode cX5_fillBox 14 = .ok (.ifCond .eq 4, 3) := by decide +kernel
theorem dX5_fillBox_17 : decode cX5_fillBox 17 = .ok (.return_, 1) := by decide +kernel
theorem dX5_fillBox_18 : decode cX5_fillBox 18 = .ok (.aload_n 0, 1) := by decide +kernel
theorem dX5_fillBox_19 : decode cX5_fillBox 19 = .ok (.getfield 24, 3) := by decide +kernel
theorem dX5_fillBox_22 : decode cX5_fillBox 22 = .ok (.aload_n 0, 1) := by decide +kernel
theorem dX5_fillBox_23 : decode cX5_fillBox 23 = .ok (.getfield 54, 3) := by decide +kernel
theorem dX5_fillBox_26 : decode cX5_fillBox 26 = .ok (.invokevirtual 218, 3) := by decide +kernel
theorem dX5_fillBox_29 : decode cX5_fillBox 29 = .ok (.astore_n 1, 1) := by decide +kernel
theorem dX5_fillBox_30 : decode cX5_fillBox 30 = .ok (.aload_n 1, 1) := by decide +kernel
theorem dX5_fillBox_31 : decode cX5_fillBox 31 = .ok (.ifnonnull 4, 3) := by decide +kernel
theorem dX5_fillBox_34 : decode cX5_fillBox 34 = .ok (.return_, 1) := by decide +kernel
theorem dX5_fillBox_35 : decode cX5_fillBox 35 = .ok (.aload_n 0, 1) := by decide +kernel
theorem dX5_fillBox_36 : decode cX5_fillBox 36 = .ok (.aload_n 1, 1) := by decide +kernel
theorem dX5_fillBox_37 : decode cX5_fillBox 37 = .ok (.getfield 159, 3) := by decide +kernel
theorem dX5_fillBox_40 : decode cX5_fillBox 40 = .ok (.invokevirtual 60, 3) := by decide +kernel
theorem dX5_fillBox_43 : decode cX5_fillBox 43 = .ok (.astore_n 2, 1) := by decide +kernel
theorem dX5_fillBox_44 : decode cX5_fillBox 44 = .ok (.aload_n 2, 1) := by decide +kernel
theorem dX5_fillBox_45 : decode cX5_fillBox 45 = .ok (.ifnonnull 4, 3) := by decide +kernel
theorem dX5_fillBox_48 : decode cX5_fillBox 48 = .ok (.return_, 1) := by decide +kernel
theorem dX5_fillBox_49 : decode cX5_fillBox 49 = .ok (.aload_n 0, 1) := by decide +kernel
theorem dX5_fillBox_50 : decode cX5_fillBox 50 = .ok (.aload_n 0, 1) := by decide +kernel
theorem dX5_fillBox_51 : decode cX5_fillBox 51 = .ok (.getfield 208, 3) := by decide +kernel
theorem dX5_fillBox_54 : decode cX5_fillBox 54 = .ok (.aload_n 0, 1) := by decide +kernel
theorem dX5_fillBox_55 : decode cX5_fillBox 55 = .ok (.getfield 54, 3) := by decide +kernel
theorem dX5_fillBox_58 : decode cX5_fillBox 58 = .ok (.aload_n 1, 1) := by decide +kernel
theorem dX5_fillBox_59 : decode cX5_fillBox 59 = .ok (.getfield 221, 3) := by decide +kernel
theorem dX5_fillBox_62 : decode cX5_fillBox 62 = .ok (.isub, 1) := by decide +kernel
theorem dX5_fillBox_63 : decode cX5_fillBox 63 = .ok (.invokestatic 224, 3) := by decide +kernel
theorem dX5_fillBox_66 : decode cX5_fillBox 66 = .ok (.putfield 208, 3) := by decide +kernel
theorem dX5_fillBox_69 : decode cX5_fillBox 69 = .ok (.aload_n 0, 1) := by decide +kernel
theorem dX5_fillBox_70 : decode cX5_fillBox 70 = .ok (.getfield 31, 3) := by decide +kernel
theorem dX5_fillBox_73 : decode cX5_fillBox 73 = .ok (.aload_n 1, 1) := by decide +kernel
theorem dX5_fillBox_74 : decode cX5_fillBox 74 = .ok (.aload_n 2, 1) := by decide +kernel
theorem dX5_fillBox_75 : decode cX5_fillBox 75 = .ok (.aload_n 0, 1) := by decide +kernel
theorem dX5_fillBox_76 : decode cX5_fillBox 76 = .ok (.getfield 54, 3) := by decide +kernel
theorem dX5_fillBox_79 : decode cX5_fillBox 79 = .ok (.invokevirtual 229, 3) := by decide +kernel
theorem dX5_fillBox_82 : decode cX5_fillBox 82 = .ok (.aload_n 2, 1) := by decide +kernel
theorem dX5_fillBox_83 : decode cX5_fillBox 83 = .ok (.aload_n 0, 1) := by decide +kernel
theorem dX5_fillBox_84 : decode cX5_fillBox 84 = .ok (.getfield 54, 3) := by decide +kernel
theorem dX5_fillBox_87 : decode cX5_fillBox 87 = .ok (.invokevirtual 233, 3) := by decide +kernel
theorem dX5_fillBox_90 : decode cX5_fillBox 90 = .ok (.return_, 1) := by decide +kernel
theorem dX5_finishMilking_0 : decode cX5_finishMilking 0 = .ok (.aload_n 0, 1) := by decide +kernel
theorem dX5_finishMilking_1 : decode cX5_finishMilking 1 = .ok (.getfield 31, 3) := by decide +kernel
theorem dX5_finishMilking_4 : decode cX5_finishMilking 4 = .ok (.getfield 155, 3) := by decide +kernel
theorem dX5_finishMilking_7 : decode cX5_finishMilking 7 = .ok (.astore_n 2, 1) := by decide +kernel
theorem dX5_finishMilking_8 : decode cX5_finishMilking 8 = .ok (.aload_n 2, 1) := by decide +kernel
theorem dX5_finishMilking_9 : decode cX5_finishMilking 9 = .ok (.ifnonnull 4, 3) := by decide +kernel
theorem dX5_finishMilking_12 : decode cX5_finishMilking 12 = .ok (.return_, 1) := by decide +kernel
theorem dX5_finishMilking_13 : decode cX5_finishMilking 13 = .ok (.aload_n 0, 1) := by decide +kernel
theorem dX5_finishMilking_14 : decode cX5_finishMilking 14 = .ok (.aload_n 2, 1) := by decide +kernel
theorem dX5_finishMilking_15 : decode cX5_finishMilking 15 = .ok (.getfield 159, 3) := by decide +kernel
theorem dX5_finishMilking_18 : decode cX5_finishMilking 18 = .ok (.invokevirtual 60, 3) := by decide +kernel
theorem dX5_finishMilking_21 : decode cX5_finishMilking 21 = .ok (.astore_n 3, 1) := by decide +kernel
theorem dX5_finishMilking_22 : decode cX5_finishMilking 22 = .ok (.aload_n 3, 1) := by decide +kernel
theorem dX5_finishMilking_23 : decode cX5_finishMilking 23 = .ok (.ifnonnull 4, 3) := by decide +kernel
theorem dX5_finishMilking_26 : decode cX5_finishMilking 26 = .ok (.return_, 1) := by decide +kernel
theorem dX5_finishMilking_27 : decode cX5_finishMilking 27 = .ok (.iload_n 1, 1) := by decide +kernel
theorem dX5_finishMilking_28 : decode cX5_finishMilking 28 = .ok (.iconst 2, 1) := by decide +kernel
theorem dX5_finishMilking_29 : decode cX5_finishMilking 29 = .ok (.if_icmp .ne 17, 3) := by decide +kernel
theorem dX5_finishMilking_32 : decode cX5_finishMilking 32 = .ok (.aload_n 0, 1) := by decide +kernel
theorem dX5_finishMilking_33 : decode cX5_finishMilking 33 = .ok (.getfield 31, 3) := by decide +kernel
theorem dX5_finishMilking_36 : decode cX5_finishMilking 36 = .ok (.aload_n 0, 1) := by decide +kernel
theorem dX5_finishMilking_37 : decode cX5_finishMilking 37 = .ok (.getfield 54, 3) := by decide +kernel
theorem dX5_finishMilking_40 : decode cX5_finishMilking 40 = .ok (.invokevirtual 236, 3) := by decide +kernel
theorem dX5_finishMilking_43 : decode cX5_finishMilking 43 = .ok (.goto 10, 3) := by decide +kernel
theorem dX5_finishMilking_46 : decode cX5_finishMilking 46 = .ok (.aload_n 0, 1) := by decide +kernel
theorem dX5_finishMilking_47 : decode cX5_finishMilking 47 = .ok (.getfield 31, 3) := by decide +kernel
theorem dX5_finishMilking_50 : decode cX5_finishMilking 50 = .ok (.getfield 239, 3) := by decide +kernel
theorem dX5_finishMilking_53 : decode cX5_finishMilking 53 = .ok (.istore 4, 2) := by decide +kernel
theorem dX5_finishMilking_55 : decode cX5_finishMilking 55 = .ok (.aload_n 2, 1) := by decide +kernel
theorem dX5_finishMilking_56 : decode cX5_finishMilking 56 = .ok (.iload_n 1, 1) := by decide +kernel
theorem dX5_finishMilking_57 : decode cX5_finishMilking 57 = .ok (.putfield 151, 3) := by decide +kernel
theorem dX5_finishMilking_60 : decode cX5_finishMilking 60 = .ok (.aload_n 2, 1) := by decide +kernel
theorem dX5_finishMilking_61 : decode cX5_finishMilking 61 = .ok (.aload_n 0, 1) := by decide +kernel
theorem dX5_finishMilking_62 : decode cX5_finishMilking 62 = .ok (.getfield 54, 3) := by decide +kernel
theorem dX5_finishMilking_65 : decode cX5_finishMilking 65 = .ok (.putfield 242, 3) := by decide +kernel
theorem dX5_finishMilking_68 : decode cX5_finishMilking 68 = .ok (.aload_n 2, 1) := by decide +kernel
theorem dX5_finishMilking_69 : decode cX5_finishMilking 69 = .ok (.iload 4, 2) := by decide +kernel
theorem dX5_finishMilking_71 : decode cX5_finishMilking 71 = .ok (.putfield 205, 3) := by decide +kernel
theorem dX5_finishMilking_74 : decode cX5_finishMilking 74 = .ok (.aload_n 2, 1) := by decide +kernel
theorem dX5_finishMilking_75 : decode cX5_finishMilking 75 = .ok (.aload_n 0, 1) := by decide +kernel
theorem dX5_finishMilking_76 : decode cX5_finishMilking 76 = .ok (.getfield 38, 3) := by decide +kernel
theorem dX5_finishMilking_79 : decode cX5_finishMilking 79 = .ok (.iload 4, 2) := by decide +kernel
theorem dX5_finishMilking_81 : decode cX5_finishMilking 81 = .ok (.aload_n 3, 1) := by decide +kernel
theorem dX5_finishMilking_82 : decode cX5_finishMilking 82 = .ok (.aload_n 0, 1) := by decide +kernel
theorem dX5_finishMilking_83 : decode cX5_finishMilking 83 = .ok (.getfield 54, 3) := by decide +kernel
theorem dX5_finishMilking_86 : decode cX5_finishMilking 86 = .ok (.invokevirtual 245, 3) := by decide +kernel
theorem dX5_finishMilking_89 : decode cX5_finishMilking 89 = .ok (.invokevirtual 248, 3) := by decide +kernel
theorem dX5_finishMilking_92 : decode cX5_finishMilking 92 = .ok (.putfield 252, 3) := by decide +kernel
theorem dX5_finishMilking_95 : decode cX5_finishMilking 95 = .ok (.aload_n 2, 1) := by decide +kernel
theorem dX5_finishMilking_96 : decode cX5_finishMilking 96 = .ok (.aload_n 3, 1) := by decide +kernel
theorem dX5_finishMilking_97 : decode cX5_finishMilking 97 = .ok (.iload 4, 2) := by decide +kernel
theorem dX5_finishMilking_99 : decode cX5_finishMilking 99 = .ok (.aload_n 0, 1) := by decide +kernel
theorem dX5_finishMilking_100 : decode cX5_finishMilking 100 = .ok (.getfield 54, 3) := by decide +kernel
theorem dX5_finishMilking_103 : decode cX5_finishMilking 103 = .ok (.sipush 1440, 3) := by decide +kernel
theorem dX5_finishMilking_106 : decode cX5_finishMilking 106 = .ok (.idiv, 1) := by decide +kernel
theorem dX5_finishMilking_107 : decode cX5_finishMilking 107 = .ok (.invokevirtual 255, 3) := by decide +kernel
theorem dX5_finishMilking_110 : decode cX5_finishMilking 110 = .ok (.putfield 258, 3) := by decide +kernel
theorem dX5_finishMilking_113 : decode cX5_finishMilking 113 = .ok (.aload_n 3, 1) := by decide +kernel
theorem dX5_finishMilking_114 : decode cX5_finishMilking 114 = .ok (.aload_n 0, 1) := by decide +kernel
theorem dX5_finishMilking_115 : decode cX5_finishMilking 115 = .ok (.getfield 31, 3) := by decide +kernel
theorem dX5_finishMilking_118 : decode cX5_finishMilking 118 = .ok (.getfield 261, 3) := by decide +kernel
theorem dX5_finishMilking_121 : decode cX5_finishMilking 121 = .ok (.iload 4, 2) := by decide +kernel
theorem dX5_finishMilking_123 : decode cX5_finishMilking 123 = .ok (.isub, 1) := by decide +kernel
theorem dX5_finishMilking_124 : decode cX5_finishMilking 124 = .ok (.putfield 264, 3) := by decide +kernel
theorem dX5_finishMilking_127 : decode cX5_finishMilking 127 = .ok (.aload_n 3, 1) := by decide +kernel
theorem dX5_finishMilking_128 : decode cX5_finishMilking 128 = .ok (.dup, 1) := by decide +kernel
theorem dX5_finishMilking_129 : decode cX5_finishMilking 129 = .ok (.getfield 105, 3) := by decide +kernel
theorem dX5_finishMilking_132 : decode cX5_finishMilking 132 = .ok (.iload 4, 2) := by decide +kernel
theorem dX5_finishMilking_134 : decode cX5_finishMilking 134 = .ok (.iadd, 1) := by decide +kernel
theorem dX5_finishMilking_135 : decode cX5_finishMilking 135 = .ok (.putfield 105, 3) := by decide +kernel
theorem dX5_finishMilking_138 : decode cX5_finishMilking 138 = .ok (.aload_n 0, 1) := by decide +kernel
theorem dX5_finishMilking_139 : decode cX5_finishMilking 139 = .ok (.dup, 1) := by decide +kernel
theorem dX5_finishMilking_140 : decode cX5_finishMilking 140 = .ok (.getfield 184, 3) := by decide +kernel
theorem dX5_finishMilking_143 : decode cX5_finishMilking 143 = .ok (.iload 4, 2) := by decide +kernel
theorem dX5_finishMilking_145 : decode cX5_finishMilking 145 = .ok (.iadd, 1) := by decide +kernel
theorem dX5_finishMilking_146 : decode cX5_finishMilking 146 = .ok (.putfield 184, 3) := by decide +kernel
theorem dX5_finishMilking_149 : decode cX5_finishMilking 149 = .ok (.aload_n 0, 1) := by decide +kernel
theorem dX5_finishMilking_150 : decode cX5_finishMilking 150 = .ok (.dup, 1) := by decide +kernel
theorem dX5_finishMilking_151 : decode cX5_finishMilking 151 = .ok (.getfield 187, 3) := by decide +kernel
theorem dX5_finishMilking_154 : decode cX5_finishMilking 154 = .ok (.aload_n 2, 1) := by decide +kernel
theorem dX5_finishMilking_155 : decode cX5_finishMilking 155 = .ok (.getfield 258, 3) := by decide +kernel
theorem dX5_finishMilking_158 : decode cX5_finishMilking 158 = .ok (.iadd, 1) := by decide +kernel
theorem dX5_finishMilking_159 : decode cX5_finishMilking 159 = .ok (.putfield 187, 3) := by decide +kernel
theorem dX5_finishMilking_162 : decode cX5_finishMilking 162 = .ok (.aload_n 0, 1) := by decide +kernel
theorem dX5_finishMilking_163 : decode cX5_finishMilking 163 = .ok (.getfield 31, 3) := by decide +kernel
theorem dX5_finishMilking_166 : decode cX5_finishMilking 166 = .ok (.aconst_null, 1) := by decide +kernel
theorem dX5_finishMilking_167 : decode cX5_finishMilking 167 = .ok (.putfield 155, 3) := by decide +kernel
theorem dX5_finishMilking_170 : decode cX5_finishMilking 170 = .ok (.return_, 1) := by decide +kernel
theorem dX5_countAhead_0 : decode cX5_countAhead 0 = .ok (.aload_n 0, 1) := by decide +kernel
theorem dX5_countAhead_1 : decode cX5_countAhead 1 = .ok (.iload_n 1, 1) := by decide +kernel
theorem dX5_countAhead_2 : decode cX5_countAhead 2 = .ok (.invokevirtual 60, 3) := by decide +kernel
theorem dX5_countAhead_5 : decode cX5_countAhead 5 = .ok (.astore_n 2, 1) := by decide +kernel
theorem dX5_countAhead_6 : decode cX5_countAhead 6 = .ok (.aload_n 2, 1) := by decide +kernel
theorem dX5_countAhead_7 : decode cX5_countAhead 7 = .ok (.ifnonnull 6, 3) := by decide +kernel
theorem dX5_countAhead_10 : decode cX5_countAhead 10 = .ok (.bipush (-9), 2) := by decide +kernel
theorem dX5_countAhead_12 : decode cX5_countAhead 12 = .ok (.ireturn, 1) := by decide +kernel
theorem dX5_countAhead_13 : decode cX5_countAhead 13 = .ok (.iconst 0, 1) := by decide +kernel
theorem dX5_countAhead_14 : decode cX5_countAhead 14 = .ok (.istore_n 3, 1) := by decide +kernel
theorem dX5_countAhead_15 : decode cX5_countAhead 15 = .ok (.iconst 0, 1) := by decide +kernel
theorem dX5_countAhead_16 : decode cX5_countAhead 16 = .ok (.istore 4, 2) := by decide +kernel
theorem dX5_countAhead_18 : decode cX5_countAhead 18 = .ok (.iload 4, 2) := by decide +kernel
theorem dX5_countAhead_20 : decode cX5_countAhead 20 = .ok (.aload_n 0, 1) := by decide +kernel
theorem dX5_countAhead_21 : decode cX5_countAhead 21 = .ok (.getfield 50, 3) := by decide +kernel
theorem dX5_countAhead_24 : decode cX5_countAhead 24 = .ok (.if_icmp .ge 56, 3) := by decide +kernel
theorem dX5_countAhead_27 : decode cX5_countAhead 27 = .ok (.aload_n 0, 1) := by decide +kernel
theorem dX5_countAhead_28 : decode cX5_countAhead 28 = .ok (.iload 4, 2) := by decide +kernel
theorem dX5_countAhead_30 : decode cX5_countAhead 30 = .ok (.invokevirtual 60, 3) := by decide +kernel
theorem dX5_countAhead_33 : decode cX5_countAhead 33 = .ok (.astore 5, 2) := by decide +kernel
theorem dX5_countAhead_35 : decode cX5_countAhead 35 = .ok (.iload 4, 2) := by decide +kernel
theorem dX5_countAhead_37 : decode cX5_countAhead 37 = .ok (.iload_n 1, 1) := by decide +kernel
theorem dX5_countAhead_38 : decode cX5_countAhead 38 = .ok (.if_icmp .ge 10, 3) := by decide +kernel
theorem dX5_countAhead_41 : decode cX5_countAhead 41 = .ok (.aload_n 2, 1) := by decide +kernel
theorem dX5_countAhead_42 : decode cX5_countAhead 42 = .ok (.getfield 105, 3) := by decide +kernel
theorem dX5_countAhead_45 : decode cX5_countAhead 45 = .ok (.goto 9, 3) := by decide +kernel
theorem dX5_countAhead_48 : decode cX5_countAhead 48 = .ok (.aload_n 2, 1) := by decide +kernel
theorem dX5_countAhead_49 : decode cX5_countAhead 49 = .ok (.getfield 105, 3) := by decide +kernel
theorem dX5_countAhead_52 : decode cX5_countAhead 52 = .ok (.iconst 1, 1) := by decide +kernel
theorem dX5_countAhead_53 : decode cX5_countAhead 53 = .ok (.iadd, 1) := by decide +kernel
theorem dX5_countAhead_54 : decode cX5_countAhead 54 = .ok (.istore 6, 2) := by decide +kernel
theorem dX5_countAhead_56 : decode cX5_countAhead 56 = .ok (.aload 5, 2) := by decide +kernel
theorem dX5_countAhead_58 : decode cX5_countAhead 58 = .ok (.ifnull 16, 3) := by decide +kernel
theorem dX5_countAhead_61 : decode cX5_countAhead 61 = .ok (.aload 5, 2) := by decide +kernel
theorem dX5_countAhead_63 : decode cX5_countAhead 63 = .ok (.getfield 105, 3) := by decide +kernel
theorem dX5_countAhead_66 : decode cX5_countAhead 66 = .ok (.iload 6, 2) := by decide +kernel
theorem dX5_countAhead_68 : decode cX5_countAhead 68 = .ok (.if_icmp .lt 6, 3) := by decide +kernel
theorem dX5_countAhead_71 : decode cX5_countAhead 71 = .ok (.iinc 3 1, 3) := by decide +kernel
theorem dX5_countAhead_74 : decode cX5_countAhead 74 = .ok (.iinc 4 1, 3) := by decide +kernel
theorem dX5_countAhead_77 : decode cX5_countAhead 77 = .ok (.goto (-59), 3) := by decide +kernel
theorem dX5_countAhead_80 : decode cX5_countAhead 80 = .ok (.iload_n 3, 1) := by decide +kernel
theorem dX5_countAhead_81 : decode cX5_countAhead 81 = .ok (.ireturn, 1) := by decide +kernel
theorem dJ9_max_7cf53_0 : decode cJ9_max_7cf53 0 = .ok (.iload_n 0, 1) := by decide +kernel
theorem dJ9_max_7cf53_1 : decode cJ9_max_7cf53 1 = .ok (.iload_n 1, 1) := by decide +kernel
theorem dJ9_max_7cf53_2 : decode cJ9_max_7cf53 2 = .ok (.if_icmp .lt 7, 3) := by decide +kernel
theorem dJ9_max_7cf53_5 : decode cJ9_max_7cf53 5 = .ok (.iload_n 0, 1) := by decide +kernel
theorem dJ9_max_7cf53_6 : decode cJ9_max_7cf53 6 = .ok (.goto 4, 3) := by decide +kernel
theorem dJ9_max_7cf53_9 : decode cJ9_max_7cf53 9 = .ok (.iload_n 1, 1) := by decide +kernel
theorem dJ9_max_7cf53_10 : decode cJ9_max_7cf53 10 = .ok (.ireturn, 1) := by decide +kernel
theorem dJ9_min_7cf53_0 : decode cJ9_min_7cf53 0 = .ok (.iload_n 0, 1) := by decide +kernel
theorem dJ9_min_7cf53_1 : decode cJ9_min_7cf53 1 = .ok (.iload_n 1, 1) := by decide +kernel
theorem dJ9_min_7cf53_2 : decode cJ9_min_7cf53 2 = .ok (.if_icmp .gt 7, 3) := by decide +kernel
theorem dJ9_min_7cf53_5 : decode cJ9_min_7cf53 5 = .ok (.iload_n 0, 1) := by decide +kernel
theorem dJ9_min_7cf53_6 : decode cJ9_min_7cf53 6 = .ok (.goto 4, 3) := by decide +kernel
theorem dJ9_min_7cf53_9 : decode cJ9_min_7cf53 9 = .ok (.iload_n 1, 1) := by decide +kernel
theorem dJ9_min_7cf53_10 : decode cJ9_min_7cf53 10 = .ok (.ireturn, 1) := by decide +kernel
