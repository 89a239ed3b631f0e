set_option maxRecDepth 20000 in
theorem dX0_init_0 : decode cX0_init 0 = .ok (.aload_n 0, 1) := by decide +kernel
set_option maxRecDepth 20000 in
theorem dX0_init_1 : decode cX0_init 1 = .ok (.invokespecial 3, 3) := by decide +kernel
set_option maxRecDepth 20000 in
theorem dX0_init_4 : decode cX0_init 4 = .ok (.aload_n 0, 1) := by decide +kernel
set_option maxRecDepth 20000 in
theorem dX0_init_5 : decode cX0_init 5 = .ok (.new 9, 3) := by decide +kernel
set_option maxRecDepth 20000 in
theorem dX0_init_8 : decode cX0_init 8 = .ok (.dup, 1) := by decide +kernel
set_option maxRecDepth 20000 in
theorem dX0_init_9 : decode cX0_init 9 = .ok (.invokespecial 11, 3) := by decide +kernel
set_option maxRecDepth 20000 in
theorem dX0_init_12 : decode cX0_init 12 = .ok (.putfield 12, 3) := by decide +kernel
set_option maxRecDepth 20000 in
theorem dX0_init_15 : decode cX0_init 15 = .ok (.aload_n 0, 1) := by decide +kernel
set_option maxRecDepth 20000 in
theorem dX0_init_16 : decode cX0_init 16 = .ok (.iconst 0, 1) := by decide +kernel
set_option maxRecDepth 20000 in
theorem dX0_init_17 : decode cX0_init 17 = .ok (.putfield 18, 3) := by decide +kernel
set_option maxRecDepth 20000 in
theorem dX0_init_20 : decode cX0_init 20 = .ok (.aload_n 0, 1) := by decide +kernel
set_option maxRecDepth 20000 in
theorem dX0_init_21 : decode cX0_init 21 = .ok (.iconst 0, 1) := by decide +kernel
set_option maxRecDepth 20000 in
theorem dX0_init_22 : decode cX0_init 22 = .ok (.putfield 22, 3) := by decide +kernel
set_option maxRecDepth 20000 in
theorem dX0_init_25 : decode cX0_init 25 = .ok (.aload_n 0, 1) := by decide +kernel
set_option maxRecDepth 20000 in
theorem dX0_init_26 : decode cX0_init 26 = .ok (.iconst 4, 1) := by decide +kernel
set_option maxRecDepth 20000 in
theorem dX0_init_27 : decode cX0_init 27 = .ok (.newarray .int, 2) := by decide +kernel
set_option maxRecDepth 20000 in
theorem dX0_init_29 : decode cX0_init 29 = .ok (.putfield 25, 3) := by decide +kernel
set_option maxRecDepth 20000 in
theorem dX0_init_32 : decode cX0_init 32 = .ok (.aload_n 0, 1) := by decide +kernel
set_option maxRecDepth 20000 in
theorem dX0_init_33 : decode cX0_init 33 = .ok (.iconst 4, 1) := by decide +kernel
set_option maxRecDepth 20000 in
theorem dX0_init_34 : decode cX0_init 34 = .ok (.newarray .int, 2) := by decide +kernel
set_option maxRecDepth 20000 in
theorem dX0_init_36 : decode cX0_init 36 = .ok (.putfield 29, 3) := by decide +kernel
set_option maxRecDepth 20000 in
theorem dX0_init_39 : decode cX0_init 39 = .ok (.aload_n 0, 1) := by decide +kernel
set_option maxRecDepth 20000 in
theorem dX0_init_40 : decode cX0_init 40 = .ok (.iconst 4, 1) := by decide +kernel
set_option maxRecDepth 20000 in
theorem dX0_init_41 : decode cX0_init 41 = .ok (.newarray .int, 2) := by decide +kernel
set_option maxRecDepth 20000 in
theorem dX0_init_43 : decode cX0_init 43 = .ok (.putfield 32, 3) := by decide +kernel
set_option maxRecDepth 20000 in
theorem dX0_init_46 : decode cX0_init 46 = .ok (.aload_n 0, 1) := by decide +kernel
set_option maxRecDepth 20000 in
theorem dX0_init_47 : decode cX0_init 47 = .ok (.aload_n 1, 1) := by decide +kernel
set_option maxRecDepth 20000 in
theorem dX0_init_48 : decode cX0_init 48 = .ok (.putfield 35, 3) := by decide +kernel
set_option maxRecDepth 20000 in
theorem dX0_init_51 : decode cX0_init 51 = .ok (.aload_n 0, 1) := by decide +kernel
set_option maxRecDepth 20000 in
theorem dX0_init_52 : decode cX0_init 52 = .ok (.aload_n 2, 1) := by decide +kernel
set_option maxRecDepth 20000 in
theorem dX0_init_53 : decode cX0_init 53 = .ok (.putfield 38, 3) := by decide +kernel
set_option maxRecDepth 20000 in
theorem dX0_init_56 : decode cX0_init 56 = .ok (.return_, 1) := by decide +kernel
set_option maxRecDepth 20000 in
theorem dX0_goOn_0 : decode cX0_goOn 0 = .ok (.aload_n 0, 1) := by decide +kernel
set_option maxRecDepth 20000 in
theorem dX0_goOn_1 : decode cX0_goOn 1 = .ok (.getfield 12, 3) := by decide +kernel
set_option maxRecDepth 20000 in
theorem dX0_goOn_4 : decode cX0_goOn 4 = .ok (.aload_n 0, 1) := by decide +kernel
set_option maxRecDepth 20000 in
theorem dX0_goOn_5 : decode cX0_goOn 5 = .ok (.getfield 35, 3) := by decide +kernel
set_option maxRecDepth 20000 in
theorem dX0_goOn_8 : decode cX0_goOn 8 = .ok (.invokevirtual 42, 3) := by decide +kernel
set_option maxRecDepth 20000 in
theorem dX0_goOn_11 : decode cX0_goOn 11 = .ok (.iconst 0, 1) := by decide +kernel
set_option maxRecDepth 20000 in
theorem dX0_goOn_12 : decode cX0_goOn 12 = .ok (.istore_n 2, 1) := by decide +kernel
set_option maxRecDepth 20000 in
theorem dX0_goOn_13 : decode cX0_goOn 13 = .ok (.iload_n 2, 1) := by decide +kernel
set_option maxRecDepth 20000 in
theorem dX0_goOn_14 : decode cX0_goOn 14 = .ok (.iload_n 1, 1) := by decide +kernel
set_option maxRecDepth 20000 in
theorem dX0_goOn_15 : decode cX0_goOn 15 = .ok (.if_icmp .ge 20, 3) := by decide +kernel
set_option maxRecDepth 20000 in
theorem dX0_goOn_18 : decode cX0_goOn 18 = .ok (.aload_n 0, 1) := by decide +kernel
set_option maxRecDepth 20000 in
theorem dX0_goOn_19 : decode cX0_goOn 19 = .ok (.getfield 12, 3) := by decide +kernel
set_option maxRecDepth 20000 in
theorem dX0_goOn_22 : decode cX0_goOn 22 = .ok (.aload_n 0, 1) := by decide +kernel
set_option maxRecDepth 20000 in
theorem dX0_goOn_23 : decode cX0_goOn 23 = .ok (.getfield 38, 3) := by decide +kernel
set_option maxRecDepth 20000 in
theorem dX0_goOn_26 : decode cX0_goOn 26 = .ok (.invokevirtual 46, 3) := by decide +kernel
set_option maxRecDepth 20000 in
theorem dX0_goOn_29 : decode cX0_goOn 29 = .ok (.iinc 2 1, 3) := by decide +kernel
set_option maxRecDepth 20000 in
theorem dX0_goOn_32 : decode cX0_goOn 32 = .ok (.goto (-19), 3) := by decide +kernel
set_option maxRecDepth 20000 in
theorem dX0_goOn_35 : decode cX0_goOn 35 = .ok (.aload_n 0, 1) := by decide +kernel
set_option maxRecDepth 20000 in
theorem dX0_goOn_36 : decode cX0_goOn 36 = .ok (.getfield 12, 3) := by decide +kernel
set_option maxRecDepth 20000 in
theorem dX0_goOn_39 : decode cX0_goOn 39 = .ok (.areturn, 1) := by decide +kernel
set_option maxRecDepth 20000 in
theorem dX0_firstLoss_0 : decode cX0_firstLoss 0 = .ok (.aload_n 0, 1) := by decide +kernel
set_option maxRecDepth 20000 in
theorem dX0_firstLoss_1 : decode cX0_firstLoss 1 = .ok (.getfield 12, 3) := by decide +kernel
set_option maxRecDepth 20000 in
theorem dX0_firstLoss_4 : decode cX0_firstLoss 4 = .ok (.aload_n 0, 1) := by decide +kernel
set_option maxRecDepth 20000 in
theorem dX0_firstLoss_5 : decode cX0_firstLoss 5 = .ok (.getfield 35, 3) := by decide +kernel
set_option maxRecDepth 20000 in
theorem dX0_firstLoss_8 : decode cX0_firstLoss 8 = .ok (.invokevirtual 42, 3) := by decide +kernel
set_option maxRecDepth 20000 in
theorem dX0_firstLoss_11 : decode cX0_firstLoss 11 = .ok (.iconst 1, 1) := by decide +kernel
set_option maxRecDepth 20000 in
theorem dX0_firstLoss_12 : decode cX0_firstLoss 12 = .ok (.istore_n 2, 1) := by decide +kernel
set_option maxRecDepth 20000 in
theorem dX0_firstLoss_13 : decode cX0_firstLoss 13 = .ok (.iload_n 2, 1) := by decide +kernel
set_option maxRecDepth 20000 in
theorem dX0_firstLoss_14 : decode cX0_firstLoss 14 = .ok (.iload_n 1, 1) := by decide +kernel
set_option maxRecDepth 20000 in
theorem dX0_firstLoss_15 : decode cX0_firstLoss 15 = .ok (.if_icmp .gt 39, 3) := by decide +kernel
set_option maxRecDepth 20000 in
theorem dX0_firstLoss_18 : decode cX0_firstLoss 18 = .ok (.aload_n 0, 1) := by decide +kernel
set_option maxRecDepth 20000 in
theorem dX0_firstLoss_19 : decode cX0_firstLoss 19 = .ok (.getfield 12, 3) := by decide +kernel
set_option maxRecDepth 20000 in
theorem dX0_firstLoss_22 : decode cX0_firstLoss 22 = .ok (.aload_n 0, 1) := by decide +kernel
set_option maxRecDepth 20000 in
theorem dX0_firstLoss_23 : decode cX0_firstLoss 23 = .ok (.getfield 38, 3) := by decide +kernel
set_option maxRecDepth 20000 in
theorem dX0_firstLoss_26 : decode cX0_firstLoss 26 = .ok (.invokevirtual 46, 3) := by decide +kernel
set_option maxRecDepth 20000 in
theorem dX0_firstLoss_29 : decode cX0_firstLoss 29 = .ok (.aload_n 0, 1) := by decide +kernel
set_option maxRecDepth 20000 in
theorem dX0_firstLoss_30 : decode cX0_firstLoss 30 = .ok (.getfield 12, 3) := by decide +kernel
set_option maxRecDepth 20000 in
theorem dX0_firstLoss_33 : decode cX0_firstLoss 33 = .ok (.getfield 50, 3) := by decide +kernel
set_option maxRecDepth 20000 in
theorem dX0_firstLoss_36 : decode cX0_firstLoss 36 = .ok (.aload_n 0, 1) := by decide +kernel
set_option maxRecDepth 20000 in
theorem dX0_firstLoss_37 : decode cX0_firstLoss 37 = .ok (.getfield 35, 3) := by decide +kernel
set_option maxRecDepth 20000 in
theorem dX0_firstLoss_40 : decode cX0_firstLoss 40 = .ok (.getfield 50, 3) := by decide +kernel
set_option maxRecDepth 20000 in
theorem dX0_firstLoss_43 : decode cX0_firstLoss 43 = .ok (.if_icmp .le 5, 3) := by decide +kernel
set_option maxRecDepth 20000 in
theorem dX0_firstLoss_46 : decode cX0_firstLoss 46 = .ok (.iload_n 2, 1) := by decide +kernel
set_option maxRecDepth 20000 in
theorem dX0_firstLoss_47 : decode cX0_firstLoss 47 = .ok (.ireturn, 1) := by decide +kernel
set_option maxRecDepth 20000 in
theorem dX0_firstLoss_48 : decode cX0_firstLoss 48 = .ok (.iinc 2 1, 3) := by decide +kernel
set_option maxRecDepth 20000 in
theorem dX0_firstLoss_51 : decode cX0_firstLoss 51 = .ok (.goto (-38), 3) := by decide +kernel
set_option maxRecDepth 20000 in
theorem dX0_firstLoss_54 : decode cX0_firstLoss 54 = .ok (.iconst 0, 1) := by decide +kernel
set_option maxRecDepth 20000 in
theorem dX0_firstLoss_55 : decode cX0_firstLoss 55 = .ok (.ireturn, 1) := by decide +kernel
set_option maxRecDepth 20000 in
theorem dX0_firstUnlike_0 : decode cX0_firstUnlike 0 = .ok (.aload_n 0, 1) := by decide +kernel
set_option maxRecDepth 20000 in
theorem dX0_firstUnlike_1 : decode cX0_firstUnlike 1 = .ok (.getfield 12, 3) := by decide +kernel
set_option maxRecDepth 20000 in
theorem dX0_firstUnlike_4 : decode cX0_firstUnlike 4 = .ok (.aload_n 0, 1) := by decide +kernel
set_option maxRecDepth 20000 in
theorem dX0_firstUnlike_5 : decode cX0_firstUnlike 5 = .ok (.getfield 35, 3) := by decide +kernel
set_option maxRecDepth 20000 in
theorem dX0_firstUnlike_8 : decode cX0_firstUnlike 8 = .ok (.invokevirtual 42, 3) := by decide +kernel
set_option maxRecDepth 20000 in
theorem dX0_firstUnlike_11 : decode cX0_firstUnlike 11 = .ok (.iconst 0, 1) := by decide +kernel
set_option maxRecDepth 20000 in
theorem dX0_firstUnlike_12 : decode cX0_firstUnlike 12 = .ok (.istore_n 3, 1) := by decide +kernel
set_option maxRecDepth 20000 in
theorem dX0_firstUnlike_13 : decode cX0_firstUnlike 13 = .ok (.iload_n 3, 1) := by decide +kernel
set_option maxRecDepth 20000 in
theorem dX0_firstUnlike_14 : decode cX0_firstUnlike 14 = .ok (.iload_n 2, 1) := by decide +kernel
set_option maxRecDepth 20000 in
theorem dX0_firstUnlike_15 : decode cX0_firstUnlike 15 = .ok (.if_icmp .ge 43, 3) := by decide +kernel
set_option maxRecDepth 20000 in
theorem dX0_firstUnlike_18 : decode cX0_firstUnlike 18 = .ok (.iload_n 3, 1) := by decide +kernel
set_option maxRecDepth 20000 in
theorem dX0_firstUnlike_19 : decode cX0_firstUnlike 19 = .ok (.aload_n 1, 1) := by decide +kernel
set_option maxRecDepth 20000 in
theorem dX0_firstUnlike_20 : decode cX0_firstUnlike 20 = .ok (.arraylength, 1) := by decide +kernel
set_option maxRecDepth 20000 in
theorem dX0_firstUnlike_21 : decode cX0_firstUnlike 21 = .ok (.if_icmp .ge 37, 3) := by decide +kernel
set_option maxRecDepth 20000 in
theorem dX0_firstUnlike_24 : decode cX0_firstUnlike 24 = .ok (.aload_n 0, 1) := by decide +kernel
set_option maxRecDepth 20000 in
theorem dX0_firstUnlike_25 : decode cX0_firstUnlike 25 = .ok (.getfield 12, 3) := by decide +kernel
set_option maxRecDepth 20000 in
theorem dX0_firstUnlike_28 : decode cX0_firstUnlike 28 = .ok (.aload_n 0, 1) := by decide +kernel
set_option maxRecDepth 20000 in
theorem dX0_firstUnlike_29 : decode cX0_firstUnlike 29 = .ok (.getfield 38, 3) := by decide +kernel
set_option maxRecDepth 20000 in
theorem dX0_firstUnlike_32 : decode cX0_firstUnlike 32 = .ok (.invokevirtual 46, 3) := by decide +kernel
set_option maxRecDepth 20000 in
theorem dX0_firstUnlike_35 : decode cX0_firstUnlike 35 = .ok (.aload_n 0, 1) := by decide +kernel
set_option maxRecDepth 20000 in
theorem dX0_firstUnlike_36 : decode cX0_firstUnlike 36 = .ok (.getfield 12, 3) := by decide +kernel
set_option maxRecDepth 20000 in
theorem dX0_firstUnlike_39 : decode cX0_firstUnlike 39 = .ok (.getfield 53, 3) := by decide +kernel
set_option maxRecDepth 20000 in
theorem dX0_firstUnlike_42 : decode cX0_firstUnlike 42 = .ok (.aload_n 1, 1) := by decide +kernel
set_option maxRecDepth 20000 in
theorem dX0_firstUnlike_43 : decode cX0_firstUnlike 43 = .ok (.iload_n 3, 1) := by decide +kernel
set_option maxRecDepth 20000 in
theorem dX0_firstUnlike_44 : decode cX0_firstUnlike 44 = .ok (.iaload, 1) := by decide +kernel
set_option maxRecDepth 20000 in
theorem dX0_firstUnlike_45 : decode cX0_firstUnlike 45 = .ok (.if_icmp .eq 7, 3) := by decide +kernel
set_option maxRecDepth 20000 in
theorem dX0_firstUnlike_48 : decode cX0_firstUnlike 48 = .ok (.iload_n 3, 1) := by decide +kernel
set_option maxRecDepth 20000 in
theorem dX0_firstUnlike_49 : decode cX0_firstUnlike 49 = .ok (.iconst 1, 1) := by decide +kernel
set_option maxRecDepth 20000 in
theorem dX0_firstUnlike_50 : decode cX0_firstUnlike 50 = .ok (.iadd, 1) := by decide +kernel
set_option maxRecDepth 20000 in
theorem dX0_firstUnlike_51 : decode cX0_firstUnlike 51 = .ok (.ireturn, 1) := by decide +kernel
set_option maxRecDepth 20000 in
theorem dX0_firstUnlike_52 : decode cX0_firstUnlike 52 = .ok (.iinc 3 1, 3) := by decide +kernel
set_option maxRecDepth 20000 in
theorem dX0_firstUnlike_55 : decode cX0_firstUnlike 55 = .ok (.goto (-42), 3) := by decide +kernel
set_option maxRecDepth 20000 in
theorem dX0_firstUnlike_58 : decode cX0_firstUnlike 58 = .ok (.iconst 0, 1) := by decide +kernel
set_option maxRecDepth 20000 in
theorem dX0_firstUnlike_59 : decode cX0_firstUnlike 59 = .ok (.ireturn, 1) := by decide +kernel
set_option maxRecDepth 20000 in
theorem dX0_chooseMends_0 : decode cX0_chooseMends 0 = .ok (.iconst 0, 1) := by decide +kernel
set_option maxRecDepth 20000 in
theorem dX0_chooseMends_1 : decode cX0_chooseMends 1 = .ok (.istore_n 3, 1) := by decide +kernel
set_option maxRecDepth 20000 in
theorem dX0_chooseMends_2 : decode cX0_chooseMends 2 = .ok (.aload_n 0, 1) := by decide +kernel
set_option maxRecDepth 20000 in
theorem dX0_chooseMends_3 : decode cX0_chooseMends 3 = .ok (.iconst 0, 1) := by decide +kernel
set_option maxRecDepth 20000 in
theorem dX0_chooseMends_4 : decode cX0_chooseMends 4 = .ok (.putfield 22, 3) := by decide +kernel
set_option maxRecDepth 20000 in
theorem dX0_chooseMends_7 : decode cX0_chooseMends 7 = .ok (.aload_n 0, 1) := by decide +kernel
set_option maxRecDepth 20000 in
theorem dX0_chooseMends_8 : decode cX0_chooseMends 8 = .ok (.iconst (-1), 1) := by decide +kernel
set_option maxRecDepth 20000 in
theorem dX0_chooseMends_9 : decode cX0_chooseMends 9 = .ok (.putfield 18, 3) := by decide +kernel
set_option maxRecDepth 20000 in
theorem dX0_chooseMends_12 : decode cX0_chooseMends 12 = .ok (.iconst 0, 1) := by decide +kernel
set_option maxRecDepth 20000 in
theorem dX0_chooseMends_13 : decode cX0_chooseMends 13 = .ok (.istore 4, 2) := by decide +kernel
set_option maxRecDepth 20000 in
theorem dX0_chooseMends_15 : decode cX0_chooseMends 15 = .ok (.iload 4, 2) := by decide +kernel
set_option maxRecDepth 20000 in
theorem dX0_chooseMends_17 : decode cX0_chooseMends 17 = .ok (.iconst 1, 1) := by decide +kernel
set_option maxRecDepth 20000 in
theorem dX0_chooseMends_18 : decode cX0_chooseMends 18 = .ok (.aload_n 0, 1) := by decide +kernel
set_option maxRecDepth 20000 in
theorem dX0_chooseMends_19 : decode cX0_chooseMends 19 = .ok (.getfield 35, 3) := by decide +kernel
set_option maxRecDepth 20000 in
theorem dX0_chooseMends_22 : decode cX0_chooseMends 22 = .ok (.getfield 56, 3) := by decide +kernel
set_option maxRecDepth 20000 in
theorem dX0_chooseMends_25 : decode cX0_chooseMends 25 = .ok (.ishl, 1) := by decide +kernel
set_option maxRecDepth 20000 in
theorem dX0_chooseMends_26 : decode cX0_chooseMends 26 = .ok (.if_icmp .ge 74, 3) := by decide +kernel
set_option maxRecDepth 20000 in
theorem dX0_chooseMends_29 : decode cX0_chooseMends 29 = .ok (.aload_n 0, 1) := by decide +kernel
set_option maxRecDepth 20000 in
theorem dX0_chooseMends_30 : decode cX0_chooseMends 30 = .ok (.iload 4, 2) := by decide +kernel
set_option maxRecDepth 20000 in
theorem dX0_chooseMends_32 : decode cX0_chooseMends 32 = .ok (.invokevirtual 59, 3) := by decide +kernel
set_option maxRecDepth 20000 in
theorem dX0_chooseMends_35 : decode cX0_chooseMends 35 = .ok (.istore 5, 2) := by decide +kernel
set_option maxRecDepth 20000 in
theorem dX0_chooseMends_37 : decode cX0_chooseMends 37 = .ok (.iload 5, 2) := by decide +kernel
set_option maxRecDepth 20000 in
theorem dX0_chooseMends_39 : decode cX0_chooseMends 39 = .ok (.iload_n 1, 1) := by decide +kernel
set_option maxRecDepth 20000 in
theorem dX0_chooseMends_40 : decode cX0_chooseMends 40 = .ok (.if_icmp .le 6, 3) := by decide +kernel
set_option maxRecDepth 20000 in
theorem dX0_chooseMends_43 : decode cX0_chooseMends 43 = .ok (.goto 51, 3) := by decide +kernel
set_option maxRecDepth 20000 in
theorem dX0_chooseMends_46 : decode cX0_chooseMends 46 = .ok (.aload_n 0, 1) := by decide +kernel
set_option maxRecDepth 20000 in
theorem dX0_chooseMends_47 : decode cX0_chooseMends 47 = .ok (.iload 4, 2) := by decide +kernel
set_option maxRecDepth 20000 in
theorem dX0_chooseMends_49 : decode cX0_chooseMends 49 = .ok (.iload_n 2, 1) := by decide +kernel
set_option maxRecDepth 20000 in
theorem dX0_chooseMends_50 : decode cX0_chooseMends 50 = .ok (.invokevirtual 63, 3) := by decide +kernel
set_option maxRecDepth 20000 in
theorem dX0_chooseMends_53 : decode cX0_chooseMends 53 = .ok (.istore 6, 2) := by decide +kernel
set_option maxRecDepth 20000 in
theorem dX0_chooseMends_55 : decode cX0_chooseMends 55 = .ok (.iload 6, 2) := by decide +kernel
set_option maxRecDepth 20000 in
theorem dX0_chooseMends_57 : decode cX0_chooseMends 57 = .ok (.aload_n 0, 1) := by decide +kernel
set_option maxRecDepth 20000 in
theorem dX0_chooseMends_58 : decode cX0_chooseMends 58 = .ok (.getfield 18, 3) := by decide +kernel
set_option maxRecDepth 20000 in
theorem dX0_chooseMends_61 : decode cX0_chooseMends 61 = .ok (.if_icmp .gt 18, 3) := by decide +kernel
set_option maxRecDepth 20000 in
theorem dX0_chooseMends_64 : decode cX0_chooseMends 64 = .ok (.iload 6, 2) := by decide +kernel
set_option maxRecDepth 20000 in
theorem dX0_chooseMends_66 : decode cX0_chooseMends 66 = .ok (.aload_n 0, 1) := by decide +kernel
set_option maxRecDepth 20000 in
theorem dX0_chooseMends_67 : decode cX0_chooseMends 67 = .ok (.getfield 18, 3) := by decide +kernel
set_option maxRecDepth 20000 in
theorem dX0_chooseMends_70 : decode cX0_chooseMends 70 = .ok (.if_icmp .ne 24, 3) := by decide +kernel
set_option maxRecDepth 20000 in
theorem dX0_chooseMends_73 : decode cX0_chooseMends 73 = .ok (.iload 5, 2) := by decide +kernel
set_option maxRecDepth 20000 in
theorem dX0_chooseMends_75 : decode cX0_chooseMends 75 = .ok (.iload_n 3, 1) := by decide +kernel
set_option maxRecDepth 20000 in
theorem dX0_chooseMends_76 : decode cX0_chooseMends 76 = .ok (.if_icmp .ge 18, 3) := by decide +kernel
set_option maxRecDepth 20000 in
theorem dX0_chooseMends_79 : decode cX0_chooseMends 79 = .ok (.aload_n 0, 1) := by decide +kernel
set_option maxRecDepth 20000 in
theorem dX0_chooseMends_80 : decode cX0_chooseMends 80 = .ok (.iload 4, 2) := by decide +kernel
set_option maxRecDepth 20000 in
theorem dX0_chooseMends_82 : decode cX0_chooseMends 82 = .ok (.putfield 22, 3) := by decide +kernel
set_option maxRecDepth 20000 in
theorem dX0_chooseMends_85 : decode cX0_chooseMends 85 = .ok (.aload_n 0, 1) := by decide +kernel
set_option maxRecDepth 20000 in
theorem dX0_chooseMends_86 : decode cX0_chooseMends 86 = .ok (.iload 6, 2) := by decide +kernel
set_option maxRecDepth 20000 in
theorem dX0_chooseMends_88 : decode cX0_chooseMends 88 = .ok (.putfield 18, 3) := by decide +kernel
set_option maxRecDepth 20000 in
theorem dX0_chooseMends_91 : decode cX0_chooseMends 91 = .ok (.iload 5, 2) := by decide +kernel
set_option maxRecDepth 20000 in
theorem dX0_chooseMends_93 : decode cX0_chooseMends 93 = .ok (.istore_n 3, 1) := by decide +kernel
set_option maxRecDepth 20000 in
theorem dX0_chooseMends_94 : decode cX0_chooseMends 94 = .ok (.iinc 4 1, 3) := by decide +kernel
set_option maxRecDepth 20000 in
theorem dX0_chooseMends_97 : decode cX0_chooseMends 97 = .ok (.goto (-82), 3) := by decide +kernel
set_option maxRecDepth 20000 in
theorem dX0_chooseMends_100 : decode cX0_chooseMends 100 = .ok (.return_, 1) := by decide +kernel
set_option maxRecDepth 20000 in
theorem dX0_costOf_0 : decode cX0_costOf 0 = .ok (.iconst 0, 1) := by decide +kernel
set_option maxRecDepth 20000 in
theorem dX0_costOf_1 : decode cX0_costOf 1 = .ok (.istore_n 2, 1) := by decide +kernel
set_option maxRecDepth 20000 in
theorem dX0_costOf_2 : decode cX0_costOf 2 = .ok (.iconst 0, 1) := by decide +kernel
set_option maxRecDepth 20000 in
theorem dX0_costOf_3 : decode cX0_costOf 3 = .ok (.istore_n 3, 1) := by decide +kernel
set_option maxRecDepth 20000 in
theorem dX0_costOf_4 : decode cX0_costOf 4 = .ok (.iload_n 3, 1) := by decide +kernel
set_option maxRecDepth 20000 in
theorem dX0_costOf_5 : decode cX0_costOf 5 = .ok (.aload_n 0, 1) := by decide +kernel
set_option maxRecDepth 20000 in
theorem dX0_costOf_6 : decode cX0_costOf 6 = .ok (.getfield 35, 3) := by decide +kernel
set_option maxRecDepth 20000 in
theorem dX0_costOf_9 : decode cX0_costOf 9 = .ok (.getfield 56, 3) := by decide +kernel
set_option maxRecDepth 20000 in
theorem dX0_costOf_12 : decode cX0_costOf 12 = .ok (.if_icmp .ge 32, 3) := by decide +kernel
set_option maxRecDepth 20000 in
theorem dX0_costOf_15 : decode cX0_costOf 15 = .ok (.iload_n 1, 1) := by decide +kernel
set_option maxRecDepth 20000 in
theorem dX0_costOf_16 : decode cX0_costOf 16 = .ok (.iload_n 3, 1) := by decide +kernel
set_option maxRecDepth 20000 in
theorem dX0_costOf_17 : decode cX0_costOf 17 = .ok (.ishr, 1) := by decide +kernel
set_option maxRecDepth 20000 in
theorem dX0_costOf_18 : decode cX0_costOf 18 = .ok (.iconst 1, 1) := by decide +kernel
set_option maxRecDepth 20000 in
theorem dX0_costOf_19 : decode cX0_costOf 19 = .ok (.iand, 1) := by decide +kernel
set_option maxRecDepth 20000 in
theorem dX0_costOf_20 : decode cX0_costOf 20 = .ok (.iconst 1, 1) := by decide +kernel
set_option maxRecDepth 20000 in
theorem dX0_costOf_21 : decode cX0_costOf 21 = .ok (.if_icmp .ne 17, 3) := by decide +kernel
set_option maxRecDepth 20000 in
theorem dX0_costOf_24 : decode cX0_costOf 24 = .ok (.iload_n 2, 1) := by decide +kernel
set_option maxRecDepth 20000 in
theorem dX0_costOf_25 : decode cX0_costOf 25 = .ok (.aload_n 0, 1) := by decide +kernel
set_option maxRecDepth 20000 in
theorem dX0_costOf_26 : decode cX0_costOf 26 = .ok (.getfield 35, 3) := by decide +kernel
set_option maxRecDepth 20000 in
theorem dX0_costOf_29 : decode cX0_costOf 29 = .ok (.getfield 67, 3) := by decide +kernel
set_option maxRecDepth 20000 in
theorem dX0_costOf_32 : decode cX0_costOf 32 = .ok (.iload_n 3, 1) := by decide +kernel
set_option maxRecDepth 20000 in
theorem dX0_costOf_33 : decode cX0_costOf 33 = .ok (.aaload, 1) := by decide +kernel
set_option maxRecDepth 20000 in
theorem dX0_costOf_34 : decode cX0_costOf 34 = .ok (.iconst 3, 1) := by decide +kernel
set_option maxRecDepth 20000 in
theorem dX0_costOf_35 : decode cX0_costOf 35 = .ok (.iaload, 1) := by decide +kernel
set_option maxRecDepth 20000 in
theorem dX0_costOf_36 : decode cX0_costOf 36 = .ok (.iadd, 1) := by decide +kernel
set_option maxRecDepth 20000 in
theorem dX0_costOf_37 : decode cX0_costOf 37 = .ok (.istore_n 2, 1) := by decide +kernel
set_option maxRecDepth 20000 in
theorem dX0_costOf_38 : decode cX0_costOf 38 = .ok (.iinc 3 1, 3) := by decide +kernel
set_option maxRecDepth 20000 in
theorem dX0_costOf_41 : decode cX0_costOf 41 = .ok (.goto (-37), 3) := by decide +kernel
set_option maxRecDepth 20000 in
theorem dX0_costOf_44 : decode cX0_costOf 44 = .ok (.iload_n 2, 1) := by decide +kernel
set_option maxRecDepth 20000 in
theorem dX0_costOf_45 : decode cX0_costOf 45 = .ok (.ireturn, 1) := by decide +kernel
set_option maxRecDepth 20000 in
theorem dX0_hensMended_0 : decode cX0_hensMended 0 = .ok (.aload_n 0, 1) := by decide +kernel
set_option maxRecDepth 20000 in
theorem dX0_hensMended_1 : decode cX0_hensMended 1 = .ok (.getfield 12, 3) := by decide +kernel
set_option maxRecDepth 20000 in
theorem dX0_hensMended_4 : decode cX0_hensMended 4 = .ok (.aload_n 0, 1) := by decide +kernel
set_option maxRecDepth 20000 in
theorem dX0_hensMended_5 : decode cX0_hensMended 5 = .ok (.getfield 35, 3) := by decide +kernel
set_option maxRecDepth 20000 in
theorem dX0_hensMended_8 : decode cX0_hensMended 8 = .ok (.invokevirtual 42, 3) := by decide +kernel
set_option maxRecDepth 20000 in
theorem dX0_hensMended_11 : decode cX0_hensMended 11 = .ok (.iconst 0, 1) := by decide +kernel
set_option maxRecDepth 20000 in
theorem dX0_hensMended_12 : decode cX0_hensMended 12 = .ok (.istore_n 3, 1) := by decide +kernel
set_option maxRecDepth 20000 in
theorem dX0_hensMended_13 : decode cX0_hensMended 13 = .ok (.iload_n 3, 1) := by decide +kernel
set_option maxRecDepth 20000 in
theorem dX0_hensMended_14 : decode cX0_hensMended 14 = .ok (.aload_n 0, 1) := by decide +kernel
set_option maxRecDepth 20000 in
theorem dX0_hensMended_15 : decode cX0_hensMended 15 = .ok (.getfield 12, 3) := by decide +kernel
set_option maxRecDepth 20000 in
theorem dX0_hensMended_18 : decode cX0_hensMended 18 = .ok (.getfield 56, 3) := by decide +kernel
set_option maxRecDepth 20000 in
theorem dX0_hensMended_21 : decode cX0_hensMended 21 = .ok (.if_icmp .ge 26, 3) := by decide +kernel
set_option maxRecDepth 20000 in
theorem dX0_hensMended_24 : decode cX0_hensMended 24 = .ok (.iload_n 1, 1) := by decide +kernel
set_option maxRecDepth 20000 in
theorem dX0_hensMended_25 : decode cX0_hensMended 25 = .ok (.iload_n 3, 1) := by decide +kernel
set_option maxRecDepth 20000 in
theorem dX0_hensMended_26 : decode cX0_hensMended 26 = .ok (.ishr, 1) := by decide +kernel
set_option maxRecDepth 20000 in
theorem dX0_hensMended_27 : decode cX0_hensMended 27 = .ok (.iconst 1, 1) := by decide +kernel
set_option maxRecDepth 20000 in
theorem dX0_hensMended_28 : decode cX0_hensMended 28 = .ok (.iand, 1) := by decide +kernel
set_option maxRecDepth 20000 in
theorem dX0_hensMended_29 : decode cX0_hensMended 29 = .ok (.iconst 1, 1) := by decide +kernel
set_option maxRecDepth 20000 in
theorem dX0_hensMended_30 : decode cX0_hensMended 30 = .ok (.if_icmp .ne 11, 3) := by decide +kernel
set_option maxRecDepth 20000 in
theorem dX0_hensMended_33 : decode cX0_hensMended 33 = .ok (.aload_n 0, 1) := by decide +kernel
set_option maxRecDepth 20000 in
theorem dX0_hensMended_34 : decode cX0_hensMended 34 = .ok (.getfield 12, 3) := by decide +kernel
set_option maxRecDepth 20000 in
theorem dX0_hensMended_37 : decode cX0_hensMended 37 = .ok (.iload_n 3, 1) := by decide +kernel
set_option maxRecDepth 20000 in
theorem dX0_hensMended_38 : decode cX0_hensMended 38 = .ok (.invokevirtual 71, 3) := by decide +kernel
set_option maxRecDepth 20000 in
theorem dX0_hensMended_41 : decode cX0_hensMended 41 = .ok (.iinc 3 1, 3) := by decide +kernel
set_option maxRecDepth 20000 in
theorem dX0_hensMended_44 : decode cX0_hensMended 44 = .ok (.goto (-31), 3) := by decide +kernel
set_option maxRecDepth 20000 in
theorem dX0_hensMended_47 : decode cX0_hensMended 47 = .ok (.iconst 0, 1) := by decide +kernel
set_option maxRecDepth 20000 in
theorem dX0_hensMended_48 : decode cX0_hensMended 48 = .ok (.istore_n 3, 1) := by decide +kernel
set_option maxRecDepth 20000 in
theorem dX0_hensMended_49 : decode cX0_hensMended 49 = .ok (.iload_n 3, 1) := by decide +kernel
set_option maxRecDepth 20000 in
theorem dX0_hensMended_50 : decode cX0_hensMended 50 = .ok (.iload_n 2, 1) := by decide +kernel
set_option maxRecDepth 20000 in
theorem dX0_hensMended_51 : decode cX0_hensMended 51 = .ok (.if_icmp .ge 20, 3) := by decide +kernel
set_option maxRecDepth 20000 in
theorem dX0_hensMended_54 : decode cX0_hensMended 54 = .ok (.aload_n 0, 1) := by decide +kernel
set_option maxRecDepth 20000 in
theorem dX0_hensMended_55 : decode cX0_hensMended 55 = .ok (.getfield 12, 3) := by decide +kernel
set_option maxRecDepth 20000 in
theorem dX0_hensMended_58 : decode cX0_hensMended 58 = .ok (.aload_n 0, 1) := by decide +kernel
set_option maxRecDepth 20000 in
theorem dX0_hensMended_59 : decode cX0_hensMended 59 = .ok (.getfield 38, 3) := by decide +kernel
set_option maxRecDepth 20000 in
theorem dX0_hensMended_62 : decode cX0_hensMended 62 = .ok (.invokevirtual 46, 3) := by decide +kernel
set_option maxRecDepth 20000 in
theorem dX0_hensMended_65 : decode cX0_hensMended 65 = .ok (.iinc 3 1, 3) := by decide +kernel
set_option maxRecDepth 20000 in
theorem dX0_hensMended_68 : decode cX0_hensMended 68 = .ok (.goto (-19), 3) := by decide +kernel
set_option maxRecDepth 20000 in
theorem dX0_hensMended_71 : decode cX0_hensMended 71 = .ok (.aload_n 0, 1) := by decide +kernel
set_option maxRecDepth 20000 in
theorem dX0_hensMended_72 : decode cX0_hensMended 72 = .ok (.getfield 12, 3) := by decide +kernel
set_option maxRecDepth 20000 in
theorem dX0_hensMended_75 : decode cX0_hensMended 75 = .ok (.getfield 75, 3) := by decide +kernel
set_option maxRecDepth 20000 in
theorem dX0_hensMended_78 : decode cX0_hensMended 78 = .ok (.iconst 0, 1) := by decide +kernel
set_option maxRecDepth 20000 in
theorem dX0_hensMended_79 : decode cX0_hensMended 79 = .ok (.iaload, 1) := by decide +kernel
set_option maxRecDepth 20000 in
theorem dX0_hensMended_80 : decode cX0_hensMended 80 = .ok (.ireturn, 1) := by decide +kernel
set_option maxRecDepth 20000 in
theorem dX0_chooseHangs_0 : decode cX0_chooseHangs 0 = .ok (.aload_n 0, 1) := by decide +kernel
set_option maxRecDepth 20000 in
theorem dX0_chooseHangs_1 : decode cX0_chooseHangs 1 = .ok (.getfield 35, 3) := by decide +kernel
set_option maxRecDepth 20000 in
theorem dX0_chooseHangs_4 : decode cX0_chooseHangs 4 = .ok (.invokevirtual 78, 3) := by decide +kernel
set_option maxRecDepth 20000 in
theorem dX0_chooseHangs_7 : decode cX0_chooseHangs 7 = .ok (.iconst 4, 1) := by decide +kernel
set_option maxRecDepth 20000 in
theorem dX0_chooseHangs_8 : decode cX0_chooseHangs 8 = .ok (.invokestatic 82, 3) := by decide +kernel
set_option maxRecDepth 20000 in
theorem dX0_chooseHangs_11 : decode cX0_chooseHangs 11 = .ok (.istore_n 2, 1) := by decide +kernel
set_option maxRecDepth 20000 in
theorem dX0_chooseHangs_12 : decode cX0_chooseHangs 12 = .ok (.aload_n 0, 1) := by decide +kernel
set_option maxRecDepth 20000 in
theorem dX0_chooseHangs_13 : decode cX0_chooseHangs 13 = .ok (.iconst (-1), 1) := by decide +kernel
set_option maxRecDepth 20000 in
theorem dX0_chooseHangs_14 : decode cX0_chooseHangs 14 = .ok (.putfield 18, 3) := by decide +kernel
set_option maxRecDepth 20000 in
theorem dX0_chooseHangs_17 : decode cX0_chooseHangs 17 = .ok (.iconst 0, 1) := by decide +kernel
set_option maxRecDepth 20000 in
theorem dX0_chooseHangs_18 : decode cX0_chooseHangs 18 = .ok (.istore_n 3, 1) := by decide +kernel
set_option maxRecDepth 20000 in
theorem dX0_chooseHangs_19 : decode cX0_chooseHangs 19 = .ok (.iload_n 3, 1) := by decide +kernel
set_option maxRecDepth 20000 in
theorem dX0_chooseHangs_20 : decode cX0_chooseHangs 20 = .ok (.getstatic 87, 3) := by decide +kernel
set_option maxRecDepth 20000 in
theorem dX0_chooseHangs_23 : decode cX0_chooseHangs 23 = .ok (.iload_n 2, 1) := by decide +kernel
set_option maxRecDepth 20000 in
theorem dX0_chooseHangs_24 : decode cX0_chooseHangs 24 = .ok (.iaload, 1) := by decide +kernel
set_option maxRecDepth 20000 in
theorem dX0_chooseHangs_25 : decode cX0_chooseHangs 25 = .ok (.if_icmp .ge 52, 3) := by decide +kernel
set_option maxRecDepth 20000 in
theorem dX0_chooseHangs_28 : decode cX0_chooseHangs 28 = .ok (.aload_n 0, 1) := by decide +kernel
set_option maxRecDepth 20000 in
theorem dX0_chooseHangs_29 : decode cX0_chooseHangs 29 = .ok (.iload_n 3, 1) := by decide +kernel
set_option maxRecDepth 20000 in
theorem dX0_chooseHangs_30 : decode cX0_chooseHangs 30 = .ok (.iload_n 2, 1) := by decide +kernel
set_option maxRecDepth 20000 in
theorem dX0_chooseHangs_31 : decode cX0_chooseHangs 31 = .ok (.invokevirtual 90, 3) := by decide +kernel
set_option maxRecDepth 20000 in
theorem dX0_chooseHangs_34 : decode cX0_chooseHangs 34 = .ok (.aload_n 0, 1) := by decide +kernel
set_option maxRecDepth 20000 in
theorem dX0_chooseHangs_35 : decode cX0_chooseHangs 35 = .ok (.iload_n 1, 1) := by decide +kernel
set_option maxRecDepth 20000 in
theorem dX0_chooseHangs_36 : decode cX0_chooseHangs 36 = .ok (.iload_n 2, 1) := by decide +kernel
set_option maxRecDepth 20000 in
theorem dX0_chooseHangs_37 : decode cX0_chooseHangs 37 = .ok (.invokevirtual 94, 3) := by decide +kernel
set_option maxRecDepth 20000 in
theorem dX0_chooseHangs_40 : decode cX0_chooseHangs 40 = .ok (.istore 4, 2) := by decide +kernel
set_option maxRecDepth 20000 in
theorem dX0_chooseHangs_42 : decode cX0_chooseHangs 42 = .ok (.iload 4, 2) := by decide +kernel
set_option maxRecDepth 20000 in
theorem dX0_chooseHangs_44 : decode cX0_chooseHangs 44 = .ok (.aload_n 0, 1) := by decide +kernel
set_option maxRecDepth 20000 in
theorem dX0_chooseHangs_45 : decode cX0_chooseHangs 45 = .ok (.getfield 18, 3) := by decide +kernel
set_option maxRecDepth 20000 in
theorem dX0_chooseHangs_48 : decode cX0_chooseHangs 48 = .ok (.if_icmp .le 23, 3) := by decide +kernel
set_option maxRecDepth 20000 in
theorem dX0_chooseHangs_51 : decode cX0_chooseHangs 51 = .ok (.aload_n 0, 1) := by decide +kernel
set_option maxRecDepth 20000 in
theorem dX0_chooseHangs_52 : decode cX0_chooseHangs 52 = .ok (.iload 4, 2) := by decide +kernel
set_option maxRecDepth 20000 in
theorem dX0_chooseHangs_54 : decode cX0_chooseHangs 54 = .ok (.putfield 18, 3) := by decide +kernel
set_option maxRecDepth 20000 in
theorem dX0_chooseHangs_57 : decode cX0_chooseHangs 57 = .ok (.aload_n 0, 1) := by decide +kernel
set_option maxRecDepth 20000 in
theorem dX0_chooseHangs_58 : decode cX0_chooseHangs 58 = .ok (.getfield 29, 3) := by decide +kernel
set_option maxRecDepth 20000 in
theorem dX0_chooseHangs_61 : decode cX0_chooseHangs 61 = .ok (.iconst 0, 1) := by decide +kernel
set_option maxRecDepth 20000 in
theorem dX0_chooseHangs_62 : decode cX0_chooseHangs 62 = .ok (.aload_n 0, 1) := by decide +kernel
set_option maxRecDepth 20000 in
theorem dX0_chooseHangs_63 : decode cX0_chooseHangs 63 = .ok (.getfield 25, 3) := by decide +kernel
set_option maxRecDepth 20000 in
theorem dX0_chooseHangs_66 : decode cX0_chooseHangs 66 = .ok (.iconst 0, 1) := by decide +kernel
set_option maxRecDepth 20000 in
theorem dX0_chooseHangs_67 : decode cX0_chooseHangs 67 = .ok (.iload_n 2, 1) := by decide +kernel
set_option maxRecDepth 20000 in
theorem dX0_chooseHangs_68 : decode cX0_chooseHangs 68 = .ok (.invokestatic 97, 3) := by decide +kernel
set_option maxRecDepth 20000 in
theorem dX0_chooseHangs_71 : decode cX0_chooseHangs 71 = .ok (.iinc 3 1, 3) := by decide +kernel
set_option maxRecDepth 20000 in
theorem dX0_chooseHangs_74 : decode cX0_chooseHangs 74 = .ok (.goto (-55), 3) := by decide +kernel
set_option maxRecDepth 20000 in
theorem dX0_chooseHangs_77 : decode cX0_chooseHangs 77 = .ok (.return_, 1) := by decide +kernel
set_option maxRecDepth 20000 in
theorem dX0_arrange_0 : decode cX0_arrange 0 = .ok (.aload_n 0, 1) := by decide +kernel
set_option maxRecDepth 20000 in
theorem dX0_arrange_1 : decode cX0_arrange 1 = .ok (.invokevirtual 103, 3) := by decide +kernel
set_option maxRecDepth 20000 in
theorem dX0_arrange_4 : decode cX0_arrange 4 = .ok (.iload_n 1, 1) := by decide +kernel
set_option maxRecDepth 20000 in
theorem dX0_arrange_5 : decode cX0_arrange 5 = .ok (.istore_n 3, 1) := by decide +kernel
set_option maxRecDepth 20000 in
theorem dX0_arrange_6 : decode cX0_arrange 6 = .ok (.iconst 0, 1) := by decide +kernel
set_option maxRecDepth 20000 in
theorem dX0_arrange_7 : decode cX0_arrange 7 = .ok (.istore 4, 2) := by decide +kernel
set_option maxRecDepth 20000 in
theorem dX0_arrange_9 : decode cX0_arrange 9 = .ok (.iload 4, 2) := by decide +kernel
set_option maxRecDepth 20000 in
theorem dX0_arrange_11 : decode cX0_arrange 11 = .ok (.iload_n 2, 1) := by decide +kernel
set_option maxRecDepth 20000 in
theorem dX0_arrange_12 : decode cX0_arrange 12 = .ok (.if_icmp .ge 80, 3) := by decide +kernel
set_option maxRecDepth 20000 in
theorem dX0_arrange_15 : decode cX0_arrange 15 = .ok (.iconst 1, 1) := by decide +kernel
set_option maxRecDepth 20000 in
theorem dX0_arrange_16 : decode cX0_arrange 16 = .ok (.getstatic 87, 3) := by decide +kernel
set_option maxRecDepth 20000 in
theorem dX0_arrange_19 : decode cX0_arrange 19 = .ok (.iload_n 2, 1) := by decide +kernel
set_option maxRecDepth 20000 in
theorem dX0_arrange_20 : decode cX0_arrange 20 = .ok (.iconst 1, 1) := by decide +kernel
set_option maxRecDepth 20000 in
theorem dX0_arrange_21 : decode cX0_arrange 21 = .ok (.isub, 1) := by decide +kernel
set_option maxRecDepth 20000 in
theorem dX0_arrange_22 : decode cX0_arrange 22 = .ok (.iload 4, 2) := by decide +kernel
set_option maxRecDepth 20000 in
theorem dX0_arrange_24 : decode cX0_arrange 24 = .ok (.isub, 1) := by decide +kernel
set_option maxRecDepth 20000 in
theorem dX0_arrange_25 : decode cX0_arrange 25 = .ok (.iaload, 1) := by decide +kernel
set_option maxRecDepth 20000 in
theorem dX0_arrange_26 : decode cX0_arrange 26 = .ok (.invokestatic 106, 3) := by decide +kernel
set_option maxRecDepth 20000 in
theorem dX0_arrange_29 : decode cX0_arrange 29 = .ok (.istore 5, 2) := by decide +kernel
set_option maxRecDepth 20000 in
theorem dX0_arrange_31 : decode cX0_arrange 31 = .ok (.iload_n 3, 1) := by decide +kernel
set_option maxRecDepth 20000 in
theorem dX0_arrange_32 : decode cX0_arrange 32 = .ok (.iload 5, 2) := by decide +kernel
set_option maxRecDepth 20000 in
theorem dX0_arrange_34 : decode cX0_arrange 34 = .ok (.idiv, 1) := by decide +kernel
set_option maxRecDepth 20000 in
theorem dX0_arrange_35 : decode cX0_arrange 35 = .ok (.iload_n 2, 1) := by decide +kernel
set_option maxRecDepth 20000 in
theorem dX0_arrange_36 : decode cX0_arrange 36 = .ok (.iconst 1, 1) := by decide +kernel
set_option maxRecDepth 20000 in
theorem dX0_arrange_37 : decode cX0_arrange 37 = .ok (.isub, 1) := by decide +kernel
set_option maxRecDepth 20000 in
theorem dX0_arrange_38 : decode cX0_arrange 38 = .ok (.iload 4, 2) := by decide +kernel
set_option maxRecDepth 20000 in
theorem dX0_arrange_40 : decode cX0_arrange 40 = .ok (.isub, 1) := by decide +kernel
set_option maxRecDepth 20000 in
theorem dX0_arrange_41 : decode cX0_arrange 41 = .ok (.invokestatic 82, 3) := by decide +kernel
set_option maxRecDepth 20000 in
theorem dX0_arrange_44 : decode cX0_arrange 44 = .ok (.istore 6, 2) := by decide +kernel
set_option maxRecDepth 20000 in
theorem dX0_arrange_46 : decode cX0_arrange 46 = .ok (.iload_n 3, 1) := by decide +kernel
set_option maxRecDepth 20000 in
theorem dX0_arrange_47 : decode cX0_arrange 47 = .ok (.iload 5, 2) := by decide +kernel
set_option maxRecDepth 20000 in
theorem dX0_arrange_49 : decode cX0_arrange 49 = .ok (.irem, 1) := by decide +kernel
set_option maxRecDepth 20000 in
theorem dX0_arrange_50 : decode cX0_arrange 50 = .ok (.istore_n 3, 1) := by decide +kernel
set_option maxRecDepth 20000 in
theorem dX0_arrange_51 : decode cX0_arrange 51 = .ok (.aload_n 0, 1) := by decide +kernel
set_option maxRecDepth 20000 in
theorem dX0_arrange_52 : decode cX0_arrange 52 = .ok (.getfield 29, 3) := by decide +kernel
set_option maxRecDepth 20000 in
theorem dX0_arrange_55 : decode cX0_arrange 55 = .ok (.iload 4, 2) := by decide +kernel
set_option maxRecDepth 20000 in
theorem dX0_arrange_57 : decode cX0_arrange 57 = .ok (.aload_n 0, 1) := by decide +kernel
set_option maxRecDepth 20000 in
theorem dX0_arrange_58 : decode cX0_arrange 58 = .ok (.getfield 32, 3) := by decide +kernel
set_option maxRecDepth 20000 in
theorem dX0_arrange_61 : decode cX0_arrange 61 = .ok (.iload 6, 2) := by decide +kernel
set_option maxRecDepth 20000 in
theorem dX0_arrange_63 : decode cX0_arrange 63 = .ok (.iaload, 1) := by decide +kernel
set_option maxRecDepth 20000 in
theorem dX0_arrange_64 : decode cX0_arrange 64 = .ok (.iastore, 1) := by decide +kernel
set_option maxRecDepth 20000 in
theorem dX0_arrange_65 : decode cX0_arrange 65 = .ok (.aload_n 0, 1) := by decide +kernel
set_option maxRecDepth 20000 in
theorem dX0_arrange_66 : decode cX0_arrange 66 = .ok (.getfield 32, 3) := by decide +kernel
set_option maxRecDepth 20000 in
theorem dX0_arrange_69 : decode cX0_arrange 69 = .ok (.iload 6, 2) := by decide +kernel
set_option maxRecDepth 20000 in
theorem dX0_arrange_71 : decode cX0_arrange 71 = .ok (.iconst 1, 1) := by decide +kernel
set_option maxRecDepth 20000 in
theorem dX0_arrange_72 : decode cX0_arrange 72 = .ok (.iadd, 1) := by decide +kernel
set_option maxRecDepth 20000 in
theorem dX0_arrange_73 : decode cX0_arrange 73 = .ok (.aload_n 0, 1) := by decide +kernel
set_option maxRecDepth 20000 in
theorem dX0_arrange_74 : decode cX0_arrange 74 = .ok (.getfield 32, 3) := by decide +kernel
set_option maxRecDepth 20000 in
theorem dX0_arrange_77 : decode cX0_arrange 77 = .ok (.iload 6, 2) := by decide +kernel
set_option maxRecDepth 20000 in
theorem dX0_arrange_79 : decode cX0_arrange 79 = .ok (.iconst 3, 1) := by decide +kernel
set_option maxRecDepth 20000 in
theorem dX0_arrange_80 : decode cX0_arrange 80 = .ok (.iload 6, 2) := by decide +kernel
set_option maxRecDepth 20000 in
theorem dX0_arrange_82 : decode cX0_arrange 82 = .ok (.isub, 1) := by decide +kernel
set_option maxRecDepth 20000 in
theorem dX0_arrange_83 : decode cX0_arrange 83 = .ok (.invokestatic 97, 3) := by decide +kernel
set_option maxRecDepth 20000 in
theorem dX0_arrange_86 : decode cX0_arrange 86 = .ok (.iinc 4 1, 3) := by decide +kernel
set_option maxRecDepth 20000 in
theorem dX0_arrange_89 : decode cX0_arrange 89 = .ok (.goto (-80), 3) := by decide +kernel
set_option maxRecDepth 20000 in
theorem dX0_arrange_92 : decode cX0_arrange 92 = .ok (.return_, 1) := by decide +kernel
set_option maxRecDepth 20000 in
theorem dX0_listIdle_0 : decode cX0_listIdle 0 = .ok (.iconst 0, 1) := by decide +kernel
set_option maxRecDepth 20000 in
theorem dX0_listIdle_1 : decode cX0_listIdle 1 = .ok (.istore_n 1, 1) := by decide +kernel
set_option maxRecDepth 20000 in
theorem dX0_listIdle_2 : decode cX0_listIdle 2 = .ok (.iconst 0, 1) := by decide +kernel
set_option maxRecDepth 20000 in
theorem dX0_listIdle_3 : decode cX0_listIdle 3 = .ok (.istore_n 2, 1) := by decide +kernel
set_option maxRecDepth 20000 in
theorem dX0_listIdle_4 : decode cX0_listIdle 4 = .ok (.iload_n 2, 1) := by decide +kernel
set_option maxRecDepth 20000 in
theorem dX0_listIdle_5 : decode cX0_listIdle 5 = .ok (.aload_n 0, 1) := by decide +kernel
set_option maxRecDepth 20000 in
theorem dX0_listIdle_6 : decode cX0_listIdle 6 = .ok (.getfield 35, 3) := by decide +kernel
set_option maxRecDepth 20000 in
theorem dX0_listIdle_9 : decode cX0_listIdle 9 = .ok (.getfield 109, 3) := by decide +kernel
set_option maxRecDepth 20000 in
theorem dX0_listIdle_12 : decode cX0_listIdle 12 = .ok (.if_icmp .ge 38, 3) := by decide +kernel
set_option maxRecDepth 20000 in
theorem dX0_listIdle_15 : decode cX0_listIdle 15 = .ok (.iload_n 1, 1) := by decide +kernel
set_option maxRecDepth 20000 in
theorem dX0_listIdle_16 : decode cX0_listIdle 16 = .ok (.iconst 4, 1) := by decide +kernel
set_option maxRecDepth 20000 in
theorem dX0_listIdle_17 : decode cX0_listIdle 17 = .ok (.if_icmp .ge 33, 3) := by decide +kernel
set_option maxRecDepth 20000 in
theorem dX0_listIdle_20 : decode cX0_listIdle 20 = .ok (.aload_n 0, 1) := by decide +kernel
set_option maxRecDepth 20000 in
theorem dX0_listIdle_21 : decode cX0_listIdle 21 = .ok (.getfield 35, 3) := by decide +kernel
set_option maxRecDepth 20000 in
theorem dX0_listIdle_24 : decode cX0_listIdle 24 = .ok (.getfield 112, 3) := by decide +kernel
set_option maxRecDepth 20000 in
theorem dX0_listIdle_27 : decode cX0_listIdle 27 = .ok (.iload_n 2, 1) := by decide +kernel
set_option maxRecDepth 20000 in
theorem dX0_listIdle_28 : decode cX0_listIdle 28 = .ok (.aaload, 1) := by decide +kernel
set_option maxRecDepth 20000 in
theorem dX0_listIdle_29 : decode cX0_listIdle 29 = .ok (.iconst 2, 1) := by decide +kernel
set_option maxRecDepth 20000 in
theorem dX0_listIdle_30 : decode cX0_listIdle 30 = .ok (.iaload, 1) := by decide +kernel
set_option maxRecDepth 20000 in
theorem dX0_listIdle_31 : decode cX0_listIdle 31 = .ok (.ifCond .ne 13, 3) := by decide +kernel
set_option maxRecDepth 20000 in
theorem dX0_listIdle_34 : decode cX0_listIdle 34 = .ok (.aload_n 0, 1) := by decide +kernel
set_option maxRecDepth 20000 in
theorem dX0_listIdle_35 : decode cX0_listIdle 35 = .ok (.getfield 32, 3) := by decide +kernel
set_option maxRecDepth 20000 in
theorem dX0_listIdle_38 : decode cX0_listIdle 38 = .ok (.iload_n 1, 1) := by decide +kernel
set_option maxRecDepth 20000 in
theorem dX0_listIdle_39 : decode cX0_listIdle 39 = .ok (.iload_n 2, 1) := by decide +kernel
set_option maxRecDepth 20000 in
theorem dX0_listIdle_40 : decode cX0_listIdle 40 = .ok (.iastore, 1) := by decide +kernel
set_option maxRecDepth 20000 in
theorem dX0_listIdle_41 : decode cX0_listIdle 41 = .ok (.iinc 1 1, 3) := by decide +kernel
set_option maxRecDepth 20000 in
theorem dX0_listIdle_44 : decode cX0_listIdle 44 = .ok (.iinc 2 1, 3) := by decide +kernel
set_option maxRecDepth 20000 in
theorem dX0_listIdle_47 : decode cX0_listIdle 47 = .ok (.goto (-43), 3) := by decide +kernel
set_option maxRecDepth 20000 in
theorem dX0_listIdle_50 : decode cX0_listIdle 50 = .ok (.return_, 1) := by decide +kernel
set_option maxRecDepth 20000 in
theorem dX0_hensHung_0 : decode cX0_hensHung 0 = .ok (.aload_n 0, 1) := by decide +kernel
set_option maxRecDepth 20000 in
theorem dX0_hensHung_1 : decode cX0_hensHung 1 = .ok (.getfield 12, 3) := by decide +kernel
set_option maxRecDepth 20000 in
theorem dX0_hensHung_4 : decode cX0_hensHung 4 = .ok (.aload_n 0, 1) := by decide +kernel
set_option maxRecDepth 20000 in
theorem dX0_hensHung_5 : decode cX0_hensHung 5 = .ok (.getfield 35, 3) := by decide +kernel
set_option maxRecDepth 20000 in
theorem dX0_hensHung_8 : decode cX0_hensHung 8 = .ok (.invokevirtual 42, 3) := by decide +kernel
set_option maxRecDepth 20000 in
theorem dX0_hensHung_11 : decode cX0_hensHung 11 = .ok (.iconst 0, 1) := by decide +kernel
set_option maxRecDepth 20000 in
theorem dX0_hensHung_12 : decode cX0_hensHung 12 = .ok (.istore_n 3, 1) := by decide +kernel
set_option maxRecDepth 20000 in
theorem dX0_hensHung_13 : decode cX0_hensHung 13 = .ok (.iload_n 3, 1) := by decide +kernel
set_option maxRecDepth 20000 in
theorem dX0_hensHung_14 : decode cX0_hensHung 14 = .ok (.iload_n 1, 1) := by decide +kernel
set_option maxRecDepth 20000 in
theorem dX0_hensHung_15 : decode cX0_hensHung 15 = .ok (.if_icmp .ge 42, 3) := by decide +kernel
set_option maxRecDepth 20000 in
theorem dX0_hensHung_18 : decode cX0_hensHung 18 = .ok (.iload_n 3, 1) := by decide +kernel
set_option maxRecDepth 20000 in
theorem dX0_hensHung_19 : decode cX0_hensHung 19 = .ok (.iload_n 2, 1) := by decide +kernel
set_option maxRecDepth 20000 in
theorem dX0_hensHung_20 : decode cX0_hensHung 20 = .ok (.if_icmp .ge 20, 3) := by decide +kernel
set_option maxRecDepth 20000 in
theorem dX0_hensHung_23 : decode cX0_hensHung 23 = .ok (.aload_n 0, 1) := by decide +kernel
set_option maxRecDepth 20000 in
theorem dX0_hensHung_24 : decode cX0_hensHung 24 = .ok (.getfield 12, 3) := by decide +kernel
set_option maxRecDepth 20000 in
theorem dX0_hensHung_27 : decode cX0_hensHung 27 = .ok (.getfield 112, 3) := by decide +kernel
set_option maxRecDepth 20000 in
theorem dX0_hensHung_30 : decode cX0_hensHung 30 = .ok (.aload_n 0, 1) := by decide +kernel
set_option maxRecDepth 20000 in
theorem dX0_hensHung_31 : decode cX0_hensHung 31 = .ok (.getfield 29, 3) := by decide +kernel
set_option maxRecDepth 20000 in
theorem dX0_hensHung_34 : decode cX0_hensHung 34 = .ok (.iload_n 3, 1) := by decide +kernel
set_option maxRecDepth 20000 in
theorem dX0_hensHung_35 : decode cX0_hensHung 35 = .ok (.iaload, 1) := by decide +kernel
set_option maxRecDepth 20000 in
theorem dX0_hensHung_36 : decode cX0_hensHung 36 = .ok (.aaload, 1) := by decide +kernel
set_option maxRecDepth 20000 in
theorem dX0_hensHung_37 : decode cX0_hensHung 37 = .ok (.iconst 2, 1) := by decide +kernel
set_option maxRecDepth 20000 in
theorem dX0_hensHung_38 : decode cX0_hensHung 38 = .ok (.iconst 1, 1) := by decide +kernel
set_option maxRecDepth 20000 in
theorem dX0_hensHung_39 : decode cX0_hensHung 39 = .ok (.iastore, 1) := by decide +kernel
set_option maxRecDepth 20000 in
theorem dX0_hensHung_40 : decode cX0_hensHung 40 = .ok (.aload_n 0, 1) := by decide +kernel
set_option maxRecDepth 20000 in
theorem dX0_hensHung_41 : decode cX0_hensHung 41 = .ok (.getfield 12, 3) := by decide +kernel
set_option maxRecDepth 20000 in
theorem dX0_hensHung_44 : decode cX0_hensHung 44 = .ok (.aload_n 0, 1) := by decide +kernel
set_option maxRecDepth 20000 in
theorem dX0_hensHung_45 : decode cX0_hensHung 45 = .ok (.getfield 38, 3) := by decide +kernel
set_option maxRecDepth 20000 in
theorem dX0_hensHung_48 : decode cX0_hensHung 48 = .ok (.invokevirtual 46, 3) := by decide +kernel
set_option maxRecDepth 20000 in
theorem dX0_hensHung_51 : decode cX0_hensHung 51 = .ok (.iinc 3 1, 3) := by decide +kernel
set_option maxRecDepth 20000 in
theorem dX0_hensHung_54 : decode cX0_hensHung 54 = .ok (.goto (-41), 3) := by decide +kernel
set_option maxRecDepth 20000 in
theorem dX0_hensHung_57 : decode cX0_hensHung 57 = .ok (.aload_n 0, 1) := by decide +kernel
set_option maxRecDepth 20000 in
theorem dX0_hensHung_58 : decode cX0_hensHung 58 = .ok (.getfield 12, 3) := by decide +kernel
set_option maxRecDepth 20000 in
theorem dX0_hensHung_61 : decode cX0_hensHung 61 = .ok (.getfield 75, 3) := by decide +kernel
set_option maxRecDepth 20000 in
theorem dX0_hensHung_64 : decode cX0_hensHung 64 = .ok (.iconst 0, 1) := by decide +kernel
set_option maxRecDepth 20000 in
theorem dX0_hensHung_65 : decode cX0_hensHung 65 = .ok (.iaload, 1) := by decide +kernel
set_option maxRecDepth 20000 in
theorem dX0_hensHung_66 : decode cX0_hensHung 66 = .ok (.ireturn, 1) := by decide +kernel
set_option maxRecDepth 20000 in
theorem dX0_offBy_0 : decode cX0_offBy 0 = .ok (.aload_n 0, 1) := by decide +kernel
set_option maxRecDepth 20000 in
theorem dX0_offBy_1 : decode cX0_offBy 1 = .ok (.getfield 12, 3) := by decide +kernel
set_option maxRecDepth 20000 in
theorem dX0_offBy_4 : decode cX0_offBy 4 = .ok (.aload_n 0, 1) := by decide +kernel
set_option maxRecDepth 20000 in
theorem dX0_offBy_5 : decode cX0_offBy 5 = .ok (.getfield 35, 3) := by decide +kernel
set_option maxRecDepth 20000 in
theorem dX0_offBy_8 : decode cX0_offBy 8 = .ok (.invokevirtual 42, 3) := by decide +kernel
set_option maxRecDepth 20000 in
theorem dX0_offBy_11 : decode cX0_offBy 11 = .ok (.aload_n 0, 1) := by decide +kernel
set_option maxRecDepth 20000 in
theorem dX0_offBy_12 : decode cX0_offBy 12 = .ok (.getfield 12, 3) := by decide +kernel
set_option maxRecDepth 20000 in
theorem dX0_offBy_15 : decode cX0_offBy 15 = .ok (.getfield 75, 3) := by decide +kernel
set_option maxRecDepth 20000 in
theorem dX0_offBy_18 : decode cX0_offBy 18 = .ok (.iconst 2, 1) := by decide +kernel
set_option maxRecDepth 20000 in
theorem dX0_offBy_19 : decode cX0_offBy 19 = .ok (.iload_n 2, 1) := by decide +kernel
set_option maxRecDepth 20000 in
theorem dX0_offBy_20 : decode cX0_offBy 20 = .ok (.iastore, 1) := by decide +kernel
set_option maxRecDepth 20000 in
theorem dX0_offBy_21 : decode cX0_offBy 21 = .ok (.iconst 0, 1) := by decide +kernel
set_option maxRecDepth 20000 in
theorem dX0_offBy_22 : decode cX0_offBy 22 = .ok (.istore_n 3, 1) := by decide +kernel
set_option maxRecDepth 20000 in
theorem dX0_offBy_23 : decode cX0_offBy 23 = .ok (.iconst 0, 1) := by decide +kernel
set_option maxRecDepth 20000 in
theorem dX0_offBy_24 : decode cX0_offBy 24 = .ok (.istore 4, 2) := by decide +kernel
set_option maxRecDepth 20000 in
theorem dX0_offBy_26 : decode cX0_offBy 26 = .ok (.iload 4, 2) := by decide +kernel
set_option maxRecDepth 20000 in
theorem dX0_offBy_28 : decode cX0_offBy 28 = .ok (.aload_n 1, 1) := by decide +kernel
set_option maxRecDepth 20000 in
theorem dX0_offBy_29 : decode cX0_offBy 29 = .ok (.getfield 115, 3) := by decide +kernel
set_option maxRecDepth 20000 in
theorem dX0_offBy_32 : decode cX0_offBy 32 = .ok (.if_icmp .ge 56, 3) := by decide +kernel
set_option maxRecDepth 20000 in
theorem dX0_offBy_35 : decode cX0_offBy 35 = .ok (.aload_n 0, 1) := by decide +kernel
set_option maxRecDepth 20000 in
theorem dX0_offBy_36 : decode cX0_offBy 36 = .ok (.getfield 12, 3) := by decide +kernel
set_option maxRecDepth 20000 in
theorem dX0_offBy_39 : decode cX0_offBy 39 = .ok (.aload_n 0, 1) := by decide +kernel
set_option maxRecDepth 20000 in
theorem dX0_offBy_40 : decode cX0_offBy 40 = .ok (.getfield 38, 3) := by decide +kernel
set_option maxRecDepth 20000 in
theorem dX0_offBy_43 : decode cX0_offBy 43 = .ok (.invokevirtual 46, 3) := by decide +kernel
set_option maxRecDepth 20000 in
theorem dX0_offBy_46 : decode cX0_offBy 46 = .ok (.aload_n 1, 1) := by decide +kernel
set_option maxRecDepth 20000 in
theorem dX0_offBy_47 : decode cX0_offBy 47 = .ok (.getfield 120, 3) := by decide +kernel
set_option maxRecDepth 20000 in
theorem dX0_offBy_50 : decode cX0_offBy 50 = .ok (.iload 4, 2) := by decide +kernel
set_option maxRecDepth 20000 in
theorem dX0_offBy_52 : decode cX0_offBy 52 = .ok (.iaload, 1) := by decide +kernel
set_option maxRecDepth 20000 in
theorem dX0_offBy_53 : decode cX0_offBy 53 = .ok (.i2l, 1) := by decide +kernel
set_option maxRecDepth 20000 in
theorem dX0_offBy_54 : decode cX0_offBy 54 = .ok (.aload_n 0, 1) := by decide +kernel
set_option maxRecDepth 20000 in
theorem dX0_offBy_55 : decode cX0_offBy 55 = .ok (.getfield 12, 3) := by decide +kernel
set_option maxRecDepth 20000 in
theorem dX0_offBy_58 : decode cX0_offBy 58 = .ok (.getfield 75, 3) := by decide +kernel
set_option maxRecDepth 20000 in
theorem dX0_offBy_61 : decode cX0_offBy 61 = .ok (.iconst 0, 1) := by decide +kernel
set_option maxRecDepth 20000 in
theorem dX0_offBy_62 : decode cX0_offBy 62 = .ok (.iaload, 1) := by decide +kernel
set_option maxRecDepth 20000 in
theorem dX0_offBy_63 : decode cX0_offBy 63 = .ok (.i2l, 1) := by decide +kernel
set_option maxRecDepth 20000 in
theorem dX0_offBy_64 : decode cX0_offBy 64 = .ok (.lsub, 1) := by decide +kernel
set_option maxRecDepth 20000 in
theorem dX0_offBy_65 : decode cX0_offBy 65 = .ok (.invokestatic 121, 3) := by decide +kernel
set_option maxRecDepth 20000 in
theorem dX0_offBy_68 : decode cX0_offBy 68 = .ok (.lstore 5, 2) := by decide +kernel
set_option maxRecDepth 20000 in
theorem dX0_offBy_70 : decode cX0_offBy 70 = .ok (.iload_n 3, 1) := by decide +kernel
set_option maxRecDepth 20000 in
theorem dX0_offBy_71 : decode cX0_offBy 71 = .ok (.ldc2_w 125, 3) := by decide +kernel
set_option maxRecDepth 20000 in
theorem dX0_offBy_74 : decode cX0_offBy 74 = .ok (.lload 5, 2) := by decide +kernel
set_option maxRecDepth 20000 in
theorem dX0_offBy_76 : decode cX0_offBy 76 = .ok (.invokestatic 127, 3) := by decide +kernel
set_option maxRecDepth 20000 in
theorem dX0_offBy_79 : decode cX0_offBy 79 = .ok (.l2i, 1) := by decide +kernel
set_option maxRecDepth 20000 in
theorem dX0_offBy_80 : decode cX0_offBy 80 = .ok (.iadd, 1) := by decide +kernel
set_option maxRecDepth 20000 in
theorem dX0_offBy_81 : decode cX0_offBy 81 = .ok (.istore_n 3, 1) := by decide +kernel
set_option maxRecDepth 20000 in
theorem dX0_offBy_82 : decode cX0_offBy 82 = .ok (.iinc 4 1, 3) := by decide +kernel
set_option maxRecDepth 20000 in
theorem dX0_offBy_85 : decode cX0_offBy 85 = .ok (.goto (-59), 3) := by decide +kernel
set_option maxRecDepth 20000 in
theorem dX0_offBy_88 : decode cX0_offBy 88 = .ok (.iload_n 3, 1) := by decide +kernel
set_option maxRecDepth 20000 in
theorem dX0_offBy_89 : decode cX0_offBy 89 = .ok (.ireturn, 1) := by decide +kernel
set_option maxRecDepth 20000 in
theorem dX0_hungerBy_0 : decode cX0_hungerBy 0 = .ok (.iconst 0, 1) := by decide +kernel
set_option maxRecDepth 20000 in
theorem dX0_hungerBy_1 : decode cX0_hungerBy 1 = .ok (.istore_n 2, 1) := by decide +kernel
set_option maxRecDepth 20000 in
theorem dX0_hungerBy_2 : decode cX0_hungerBy 2 = .ok (.aload_n 0, 1) := by decide +kernel
set_option maxRecDepth 20000 in
theorem dX0_hungerBy_3 : decode cX0_hungerBy 3 = .ok (.aload_n 1, 1) := by decide +kernel
set_option maxRecDepth 20000 in
theorem dX0_hungerBy_4 : decode cX0_hungerBy 4 = .ok (.iconst 0, 1) := by decide +kernel
set_option maxRecDepth 20000 in
theorem dX0_hungerBy_5 : decode cX0_hungerBy 5 = .ok (.invokevirtual 130, 3) := by decide +kernel
set_option maxRecDepth 20000 in
theorem dX0_hungerBy_8 : decode cX0_hungerBy 8 = .ok (.istore_n 3, 1) := by decide +kernel
set_option maxRecDepth 20000 in
theorem dX0_hungerBy_9 : decode cX0_hungerBy 9 = .ok (.iconst 1, 1) := by decide +kernel
set_option maxRecDepth 20000 in
theorem dX0_hungerBy_10 : decode cX0_hungerBy 10 = .ok (.istore 4, 2) := by decide +kernel
set_option maxRecDepth 20000 in
theorem dX0_hungerBy_12 : decode cX0_hungerBy 12 = .ok (.iload 4, 2) := by decide +kernel
set_option maxRecDepth 20000 in
theorem dX0_hungerBy_14 : decode cX0_hungerBy 14 = .ok (.bipush 99, 2) := by decide +kernel
set_option maxRecDepth 20000 in
theorem dX0_hungerBy_16 : decode cX0_hungerBy 16 = .ok (.if_icmp .gt 30, 3) := by decide +kernel
set_option maxRecDepth 20000 in
theorem dX0_hungerBy_19 : decode cX0_hungerBy 19 = .ok (.aload_n 0, 1) := by decide +kernel
set_option maxRecDepth 20000 in
theorem dX0_hungerBy_20 : decode cX0_hungerBy 20 = .ok (.aload_n 1, 1) := by decide +kernel
set_option maxRecDepth 20000 in
theorem dX0_hungerBy_21 : decode cX0_hungerBy 21 = .ok (.iload 4, 2) := by decide +kernel
set_option maxRecDepth 20000 in
theorem dX0_hungerBy_23 : decode cX0_hungerBy 23 = .ok (.invokevirtual 130, 3) := by decide +kernel
set_option maxRecDepth 20000 in
theorem dX0_hungerBy_26 : decode cX0_hungerBy 26 = .ok (.istore 5, 2) := by decide +kernel
set_option maxRecDepth 20000 in
theorem dX0_hungerBy_28 : decode cX0_hungerBy 28 = .ok (.iload 5, 2) := by decide +kernel
set_option maxRecDepth 20000 in
theorem dX0_hungerBy_30 : decode cX0_hungerBy 30 = .ok (.iload_n 3, 1) := by decide +kernel
set_option maxRecDepth 20000 in
theorem dX0_hungerBy_31 : decode cX0_hungerBy 31 = .ok (.if_icmp .ge 9, 3) := by decide +kernel
set_option maxRecDepth 20000 in
theorem dX0_hungerBy_34 : decode cX0_hungerBy 34 = .ok (.iload 4, 2) := by decide +kernel
set_option maxRecDepth 20000 in
theorem dX0_hungerBy_36 : decode cX0_hungerBy 36 = .ok (.istore_n 2, 1) := by decide +kernel
set_option maxRecDepth 20000 in
theorem dX0_hungerBy_37 : decode cX0_hungerBy 37 = .ok (.iload 5, 2) := by decide +kernel
set_option maxRecDepth 20000 in
theorem dX0_hungerBy_39 : decode cX0_hungerBy 39 = .ok (.istore_n 3, 1) := by decide +kernel
set_option maxRecDepth 20000 in
theorem dX0_hungerBy_40 : decode cX0_hungerBy 40 = .ok (.iinc 4 1, 3) := by decide +kernel
set_option maxRecDepth 20000 in
theorem dX0_hungerBy_43 : decode cX0_hungerBy 43 = .ok (.goto (-31), 3) := by decide +kernel
set_option maxRecDepth 20000 in
theorem dX0_hungerBy_46 : decode cX0_hungerBy 46 = .ok (.iload_n 2, 1) := by decide +kernel
set_option maxRecDepth 20000 in
theorem dX0_hungerBy_47 : decode cX0_hungerBy 47 = .ok (.ireturn, 1) := by decide +kernel
set_option maxRecDepth 20000 in
theorem dX1_init_0 : decode cX1_init 0 = .ok (.aload_n 0, 1) := by decide +kernel
set_option maxRecDepth 20000 in
theorem dX1_init_1 : decode cX1_init 1 = .ok (.invokespecial 3, 3) := by decide +kernel
set_option maxRecDepth 20000 in
theorem dX1_init_4 : decode cX1_init 4 = .ok (.aload_n 0, 1) := by decide +kernel
set_option maxRecDepth 20000 in
theorem dX1_init_5 : decode cX1_init 5 = .ok (.bipush 8, 2) := by decide +kernel
set_option maxRecDepth 20000 in
theorem dX1_init_7 : decode cX1_init 7 = .ok (.newarray .int, 2) := by decide +kernel
set_option maxRecDepth 20000 in
theorem dX1_init_9 : decode cX1_init 9 = .ok (.putfield 9, 3) := by decide +kernel
set_option maxRecDepth 20000 in
theorem dX1_init_12 : decode cX1_init 12 = .ok (.aload_n 0, 1) := by decide +kernel
set_option maxRecDepth 20000 in
theorem dX1_init_13 : decode cX1_init 13 = .ok (.iconst 0, 1) := by decide +kernel
set_option maxRecDepth 20000 in
theorem dX1_init_14 : decode cX1_init 14 = .ok (.putfield 15, 3) := by decide +kernel
set_option maxRecDepth 20000 in
theorem dX1_init_17 : decode cX1_init 17 = .ok (.aload_n 0, 1) := by decide +kernel
set_option maxRecDepth 20000 in
theorem dX1_init_18 : decode cX1_init 18 = .ok (.iconst 0, 1) := by decide +kernel
set_option maxRecDepth 20000 in
theorem dX1_init_19 : decode cX1_init 19 = .ok (.putfield 19, 3) := by decide +kernel
set_option maxRecDepth 20000 in
theorem dX1_init_22 : decode cX1_init 22 = .ok (.aload_n 0, 1) := by decide +kernel
set_option maxRecDepth 20000 in
theorem dX1_init_23 : decode cX1_init 23 = .ok (.bipush 8, 2) := by decide +kernel
set_option maxRecDepth 20000 in
theorem dX1_init_25 : decode cX1_init 25 = .ok (.bipush 6, 2) := by decide +kernel
set_option maxRecDepth 20000 in
theorem dX1_init_27 : decode cX1_init 27 = .ok (.multianewarray 22 2, 4) := by decide +kernel
set_option maxRecDepth 20000 in
theorem dX1_init_31 : decode cX1_init 31 = .ok (.putfield 24, 3) := by decide +kernel
set_option maxRecDepth 20000 in
theorem dX1_init_34 : decode cX1_init 34 = .ok (.aload_n 0, 1) := by decide +kernel
set_option maxRecDepth 20000 in
theorem dX1_init_35 : decode cX1_init 35 = .ok (.iconst 0, 1) := by decide +kernel
set_option maxRecDepth 20000 in
theorem dX1_init_36 : decode cX1_init 36 = .ok (.putfield 27, 3) := by decide +kernel
set_option maxRecDepth 20000 in
theorem dX1_init_39 : decode cX1_init 39 = .ok (.aload_n 0, 1) := by decide +kernel
set_option maxRecDepth 20000 in
theorem dX1_init_40 : decode cX1_init 40 = .ok (.iconst 5, 1) := by decide +kernel
set_option maxRecDepth 20000 in
theorem dX1_init_41 : decode cX1_init 41 = .ok (.iconst 3, 1) := by decide +kernel
set_option maxRecDepth 20000 in
theorem dX1_init_42 : decode cX1_init 42 = .ok (.multianewarray 22 2, 4) := by decide +kernel
set_option maxRecDepth 20000 in
theorem dX1_init_46 : decode cX1_init 46 = .ok (.putfield 30, 3) := by decide +kernel
set_option maxRecDepth 20000 in
theorem dX1_init_49 : decode cX1_init 49 = .ok (.aload_n 0, 1) := by decide +kernel
set_option maxRecDepth 20000 in
theorem dX1_init_50 : decode cX1_init 50 = .ok (.iconst 0, 1) := by decide +kernel
set_option maxRecDepth 20000 in
theorem dX1_init_51 : decode cX1_init 51 = .ok (.putfield 33, 3) := by decide +kernel
set_option maxRecDepth 20000 in
theorem dX1_init_54 : decode cX1_init 54 = .ok (.aload_n 0, 1) := by decide +kernel
set_option maxRecDepth 20000 in
theorem dX1_init_55 : decode cX1_init 55 = .ok (.iconst (-1), 1) := by decide +kernel
set_option maxRecDepth 20000 in
theorem dX1_init_56 : decode cX1_init 56 = .ok (.putfield 36, 3) := by decide +kernel
set_option maxRecDepth 20000 in
theorem dX1_init_59 : decode cX1_init 59 = .ok (.aload_n 0, 1) := by decide +kernel
set_option maxRecDepth 20000 in
theorem dX1_init_60 : decode cX1_init 60 = .ok (.bipush 8, 2) := by decide +kernel
set_option maxRecDepth 20000 in
theorem dX1_init_62 : decode cX1_init 62 = .ok (.newarray .int, 2) := by decide +kernel
set_option maxRecDepth 20000 in
theorem dX1_init_64 : decode cX1_init 64 = .ok (.putfield 39, 3) := by decide +kernel
set_option maxRecDepth 20000 in
theorem dX1_init_67 : decode cX1_init 67 = .ok (.getstatic 42, 3) := by decide +kernel
set_option maxRecDepth 20000 in
theorem dX1_init_70 : decode cX1_init 70 = .ok (.iconst 0, 1) := by decide +kernel
set_option maxRecDepth 20000 in
theorem dX1_init_71 : decode cX1_init 71 = .ok (.aload_n 0, 1) := by decide +kernel
set_option maxRecDepth 20000 in
theorem dX1_init_72 : decode cX1_init 72 = .ok (.getfield 9, 3) := by decide +kernel
set_option maxRecDepth 20000 in
theorem dX1_init_75 : decode cX1_init 75 = .ok (.iconst 0, 1) := by decide +kernel
set_option maxRecDepth 20000 in
theorem dX1_init_76 : decode cX1_init 76 = .ok (.aload_n 0, 1) := by decide +kernel
set_option maxRecDepth 20000 in
theorem dX1_init_77 : decode cX1_init 77 = .ok (.getfield 9, 3) := by decide +kernel
set_option maxRecDepth 20000 in
theorem dX1_init_80 : decode cX1_init 80 = .ok (.arraylength, 1) := by decide +kernel
set_option maxRecDepth 20000 in
theorem dX1_init_81 : decode cX1_init 81 = .ok (.invokestatic 45, 3) := by decide +kernel
set_option maxRecDepth 20000 in
theorem dX1_init_84 : decode cX1_init 84 = .ok (.return_, 1) := by decide +kernel
set_option maxRecDepth 20000 in
theorem dX1_copyFrom_0 : decode cX1_copyFrom 0 = .ok (.aload_n 1, 1) := by decide +kernel
set_option maxRecDepth 20000 in
theorem dX1_copyFrom_1 : decode cX1_copyFrom 1 = .ok (.getfield 9, 3) := by decide +kernel
set_option maxRecDepth 20000 in
theorem dX1_copyFrom_4 : decode cX1_copyFrom 4 = .ok (.iconst 0, 1) := by decide +kernel
set_option maxRecDepth 20000 in
theorem dX1_copyFrom_5 : decode cX1_copyFrom 5 = .ok (.aload_n 0, 1) := by decide +kernel
set_option maxRecDepth 20000 in
theorem dX1_copyFrom_6 : decode cX1_copyFrom 6 = .ok (.getfield 9, 3) := by decide +kernel
set_option maxRecDepth 20000 in
theorem dX1_copyFrom_9 : decode cX1_copyFrom 9 = .ok (.iconst 0, 1) := by decide +kernel
set_option maxRecDepth 20000 in
theorem dX1_copyFrom_10 : decode cX1_copyFrom 10 = .ok (.aload_n 0, 1) := by decide +kernel
set_option maxRecDepth 20000 in
theorem dX1_copyFrom_11 : decode cX1_copyFrom 11 = .ok (.getfield 9, 3) := by decide +kernel
set_option maxRecDepth 20000 in
theorem dX1_copyFrom_14 : decode cX1_copyFrom 14 = .ok (.arraylength, 1) := by decide +kernel
set_option maxRecDepth 20000 in
theorem dX1_copyFrom_15 : decode cX1_copyFrom 15 = .ok (.invokestatic 45, 3) := by decide +kernel
set_option maxRecDepth 20000 in
theorem dX1_copyFrom_18 : decode cX1_copyFrom 18 = .ok (.aload_n 0, 1) := by decide +kernel
set_option maxRecDepth 20000 in
theorem dX1_copyFrom_19 : decode cX1_copyFrom 19 = .ok (.aload_n 1, 1) := by decide +kernel
set_option maxRecDepth 20000 in
theorem dX1_copyFrom_20 : decode cX1_copyFrom 20 = .ok (.getfield 15, 3) := by decide +kernel
set_option maxRecDepth 20000 in
theorem dX1_copyFrom_23 : decode cX1_copyFrom 23 = .ok (.putfield 15, 3) := by decide +kernel
set_option maxRecDepth 20000 in
theorem dX1_copyFrom_26 : decode cX1_copyFrom 26 = .ok (.aload_n 0, 1) := by decide +kernel
set_option maxRecDepth 20000 in
theorem dX1_copyFrom_27 : decode cX1_copyFrom 27 = .ok (.aload_n 1, 1) := by decide +kernel
set_option maxRecDepth 20000 in
theorem dX1_copyFrom_28 : decode cX1_copyFrom 28 = .ok (.getfield 19, 3) := by decide +kernel
set_option maxRecDepth 20000 in
theorem dX1_copyFrom_31 : decode cX1_copyFrom 31 = .ok (.putfield 19, 3) := by decide +kernel
set_option maxRecDepth 20000 in
theorem dX1_copyFrom_34 : decode cX1_copyFrom 34 = .ok (.aload_n 0, 1) := by decide +kernel
set_option maxRecDepth 20000 in
theorem dX1_copyFrom_35 : decode cX1_copyFrom 35 = .ok (.aload_n 1, 1) := by decide +kernel
set_option maxRecDepth 20000 in
theorem dX1_copyFrom_36 : decode cX1_copyFrom 36 = .ok (.getfield 27, 3) := by decide +kernel
set_option maxRecDepth 20000 in
theorem dX1_copyFrom_39 : decode cX1_copyFrom 39 = .ok (.putfield 27, 3) := by decide +kernel
set_option maxRecDepth 20000 in
theorem dX1_copyFrom_42 : decode cX1_copyFrom 42 = .ok (.iconst 0, 1) := by decide +kernel
set_option maxRecDepth 20000 in
theorem dX1_copyFrom_43 : decode cX1_copyFrom 43 = .ok (.istore_n 2, 1) := by decide +kernel
set_option maxRecDepth 20000 in
theorem dX1_copyFrom_44 : decode cX1_copyFrom 44 = .ok (.iload_n 2, 1) := by decide +kernel
set_option maxRecDepth 20000 in
theorem dX1_copyFrom_45 : decode cX1_copyFrom 45 = .ok (.bipush 8, 2) := by decide +kernel
set_option maxRecDepth 20000 in
theorem dX1_copyFrom_47 : decode cX1_copyFrom 47 = .ok (.if_icmp .ge 28, 3) := by decide +kernel
set_option maxRecDepth 20000 in
theorem dX1_copyFrom_50 : decode cX1_copyFrom 50 = .ok (.aload_n 1, 1) := by decide +kernel
set_option maxRecDepth 20000 in
theorem dX1_copyFrom_51 : decode cX1_copyFrom 51 = .ok (.getfield 24, 3) := by decide +kernel
set_option maxRecDepth 20000 in
theorem dX1_copyFrom_54 : decode cX1_copyFrom 54 = .ok (.iload_n 2, 1) := by decide +kernel
set_option maxRecDepth 20000 in
theorem dX1_copyFrom_55 : decode cX1_copyFrom 55 = .ok (.aaload, 1) := by decide +kernel
set_option maxRecDepth 20000 in
theorem dX1_copyFrom_56 : decode cX1_copyFrom 56 = .ok (.iconst 0, 1) := by decide +kernel
set_option maxRecDepth 20000 in
theorem dX1_copyFrom_57 : decode cX1_copyFrom 57 = .ok (.aload_n 0, 1) := by decide +kernel
set_option maxRecDepth 20000 in
theorem dX1_copyFrom_58 : decode cX1_copyFrom 58 = .ok (.getfield 24, 3) := by decide +kernel
set_option maxRecDepth 20000 in
theorem dX1_copyFrom_61 : decode cX1_copyFrom 61 = .ok (.iload_n 2, 1) := by decide +kernel
set_option maxRecDepth 20000 in
theorem dX1_copyFrom_62 : decode cX1_copyFrom 62 = .ok (.aaload, 1) := by decide +kernel
set_option maxRecDepth 20000 in
theorem dX1_copyFrom_63 : decode cX1_copyFrom 63 = .ok (.iconst 0, 1) := by decide +kernel
set_option maxRecDepth 20000 in
theorem dX1_copyFrom_64 : decode cX1_copyFrom 64 = .ok (.bipush 6, 2) := by decide +kernel
set_option maxRecDepth 20000 in
theorem dX1_copyFrom_66 : decode cX1_copyFrom 66 = .ok (.invokestatic 45, 3) := by decide +kernel
set_option maxRecDepth 20000 in
theorem dX1_copyFrom_69 : decode cX1_copyFrom 69 = .ok (.iinc 2 1, 3) := by decide +kernel
set_option maxRecDepth 20000 in
theorem dX1_copyFrom_72 : decode cX1_copyFrom 72 = .ok (.goto (-28), 3) := by decide +kernel
set_option maxRecDepth 20000 in
theorem dX1_copyFrom_75 : decode cX1_copyFrom 75 = .ok (.aload_n 0, 1) := by decide +kernel
set_option maxRecDepth 20000 in
theorem dX1_copyFrom_76 : decode cX1_copyFrom 76 = .ok (.aload_n 1, 1) := by decide +kernel
set_option maxRecDepth 20000 in
theorem dX1_copyFrom_77 : decode cX1_copyFrom 77 = .ok (.getfield 33, 3) := by decide +kernel
set_option maxRecDepth 20000 in
theorem dX1_copyFrom_80 : decode cX1_copyFrom 80 = .ok (.putfield 33, 3) := by decide +kernel
set_option maxRecDepth 20000 in
theorem dX1_copyFrom_83 : decode cX1_copyFrom 83 = .ok (.iconst 0, 1) := by decide +kernel
set_option maxRecDepth 20000 in
theorem dX1_copyFrom_84 : decode cX1_copyFrom 84 = .ok (.istore_n 2, 1) := by decide +kernel
set_option maxRecDepth 20000 in
theorem dX1_copyFrom_85 : decode cX1_copyFrom 85 = .ok (.iload_n 2, 1) := by decide +kernel
set_option maxRecDepth 20000 in
theorem dX1_copyFrom_86 : decode cX1_copyFrom 86 = .ok (.iconst 5, 1) := by decide +kernel
set_option maxRecDepth 20000 in
theorem dX1_copyFrom_87 : decode cX1_copyFrom 87 = .ok (.if_icmp .ge 27, 3) := by decide +kernel
set_option maxRecDepth 20000 in
theorem dX1_copyFrom_90 : decode cX1_copyFrom 90 = .ok (.aload_n 1, 1) := by decide +kernel
set_option maxRecDepth 20000 in
theorem dX1_copyFrom_91 : decode cX1_copyFrom 91 = .ok (.getfield 30, 3) := by decide +kernel
set_option maxRecDepth 20000 in
theorem dX1_copyFrom_94 : decode cX1_copyFrom 94 = .ok (.iload_n 2, 1) := by decide +kernel
set_option maxRecDepth 20000 in
theorem dX1_copyFrom_95 : decode cX1_copyFrom 95 = .ok (.aaload, 1) := by decide +kernel
set_option maxRecDepth 20000 in
theorem dX1_copyFrom_96 : decode cX1_copyFrom 96 = .ok (.iconst 0, 1) := by decide +kernel
set_option maxRecDepth 20000 in
theorem dX1_copyFrom_97 : decode cX1_copyFrom 97 = .ok (.aload_n 0, 1) := by decide +kernel
set_option maxRecDepth 20000 in
theorem dX1_copyFrom_98 : decode cX1_copyFrom 98 = .ok (.getfield 30, 3) := by decide +kernel
set_option maxRecDepth 20000 in
theorem dX1_copyFrom_101 : decode cX1_copyFrom 101 = .ok (.iload_n 2, 1) := by decide +kernel
set_option maxRecDepth 20000 in
theorem dX1_copyFrom_102 : decode cX1_copyFrom 102 = .ok (.aaload, 1) := by decide +kernel
set_option maxRecDepth 20000 in
theorem dX1_copyFrom_103 : decode cX1_copyFrom 103 = .ok (.iconst 0, 1) := by decide +kernel
set_option maxRecDepth 20000 in
theorem dX1_copyFrom_104 : decode cX1_copyFrom 104 = .ok (.iconst 3, 1) := by decide +kernel
set_option maxRecDepth 20000 in
theorem dX1_copyFrom_105 : decode cX1_copyFrom 105 = .ok (.invokestatic 45, 3) := by decide +kernel
set_option maxRecDepth 20000 in
theorem dX1_copyFrom_108 : decode cX1_copyFrom 108 = .ok (.iinc 2 1, 3) := by decide +kernel
set_option maxRecDepth 20000 in
theorem dX1_copyFrom_111 : decode cX1_copyFrom 111 = .ok (.goto (-26), 3) := by decide +kernel
set_option maxRecDepth 20000 in
theorem dX1_copyFrom_114 : decode cX1_copyFrom 114 = .ok (.return_, 1) := by decide +kernel
set_option maxRecDepth 20000 in
theorem dX1_hasWay_0 : decode cX1_hasWay 0 = .ok (.iload_n 1, 1) := by decide +kernel
set_option maxRecDepth 20000 in
theorem dX1_hasWay_1 : decode cX1_hasWay 1 = .ok (.iconst 0, 1) := by decide +kernel
set_option maxRecDepth 20000 in
theorem dX1_hasWay_2 : decode cX1_hasWay 2 = .ok (.aload_n 0, 1) := by decide +kernel
set_option maxRecDepth 20000 in
theorem dX1_hasWay_3 : decode cX1_hasWay 3 = .ok (.getfield 27, 3) := by decide +kernel
set_option maxRecDepth 20000 in
theorem dX1_hasWay_6 : decode cX1_hasWay 6 = .ok (.iconst 1, 1) := by decide +kernel
set_option maxRecDepth 20000 in
theorem dX1_hasWay_7 : decode cX1_hasWay 7 = .ok (.isub, 1) := by decide +kernel
set_option maxRecDepth 20000 in
theorem dX1_hasWay_8 : decode cX1_hasWay 8 = .ok (.invokestatic 51, 3) := by decide +kernel
set_option maxRecDepth 20000 in
theorem dX1_hasWay_11 : decode cX1_hasWay 11 = .ok (.ireturn, 1) := by decide +kernel
set_option maxRecDepth 20000 in
theorem dX1_hasThing_0 : decode cX1_hasThing 0 = .ok (.iload_n 1, 1) := by decide +kernel
set_option maxRecDepth 20000 in
theorem dX1_hasThing_1 : decode cX1_hasThing 1 = .ok (.iconst 0, 1) := by decide +kernel
set_option maxRecDepth 20000 in
theorem dX1_hasThing_2 : decode cX1_hasThing 2 = .ok (.aload_n 0, 1) := by decide +kernel
set_option maxRecDepth 20000 in
theorem dX1_hasThing_3 : decode cX1_hasThing 3 = .ok (.getfield 33, 3) := by decide +kernel
set_option maxRecDepth 20000 in
theorem dX1_hasThing_6 : decode cX1_hasThing 6 = .ok (.iconst 1, 1) := by decide +kernel
set_option maxRecDepth 20000 in
theorem dX1_hasThing_7 : decode cX1_hasThing 7 = .ok (.isub, 1) := by decide +kernel
set_option maxRecDepth 20000 in
theorem dX1_hasThing_8 : decode cX1_hasThing 8 = .ok (.invokestatic 51, 3) := by decide +kernel
set_option maxRecDepth 20000 in
theorem dX1_hasThing_11 : decode cX1_hasThing 11 = .ok (.ireturn, 1) := by decide +kernel
set_option maxRecDepth 20000 in
theorem dX1_addWay_0 : decode cX1_addWay 0 = .ok (.aload_n 0, 1) := by decide +kernel
set_option maxRecDepth 20000 in
theorem dX1_addWay_1 : decode cX1_addWay 1 = .ok (.getfield 24, 3) := by decide +kernel
set_option maxRecDepth 20000 in
theorem dX1_addWay_4 : decode cX1_addWay 4 = .ok (.aload_n 0, 1) := by decide +kernel
set_option maxRecDepth 20000 in
theorem dX1_addWay_5 : decode cX1_addWay 5 = .ok (.getfield 27, 3) := by decide +kernel
set_option maxRecDepth 20000 in
theorem dX1_addWay_8 : decode cX1_addWay 8 = .ok (.aaload, 1) := by decide +kernel
set_option maxRecDepth 20000 in
theorem dX1_addWay_9 : decode cX1_addWay 9 = .ok (.astore 4, 2) := by decide +kernel
set_option maxRecDepth 20000 in
theorem dX1_addWay_11 : decode cX1_addWay 11 = .ok (.aload 4, 2) := by decide +kernel
set_option maxRecDepth 20000 in
theorem dX1_addWay_13 : decode cX1_addWay 13 = .ok (.iconst 0, 1) := by decide +kernel
set_option maxRecDepth 20000 in
theorem dX1_addWay_14 : decode cX1_addWay 14 = .ok (.iload_n 1, 1) := by decide +kernel
set_option maxRecDepth 20000 in
theorem dX1_addWay_15 : decode cX1_addWay 15 = .ok (.iastore, 1) := by decide +kernel
set_option maxRecDepth 20000 in
theorem dX1_addWay_16 : decode cX1_addWay 16 = .ok (.aload 4, 2) := by decide +kernel
set_option maxRecDepth 20000 in
theorem dX1_addWay_18 : decode cX1_addWay 18 = .ok (.iconst 1, 1) := by decide +kernel
set_option maxRecDepth 20000 in
theorem dX1_addWay_19 : decode cX1_addWay 19 = .ok (.iload_n 2, 1) := by decide +kernel
set_option maxRecDepth 20000 in
theorem dX1_addWay_20 : decode cX1_addWay 20 = .ok (.bipush 100, 2) := by decide +kernel
set_option maxRecDepth 20000 in
theorem dX1_addWay_22 : decode cX1_addWay 22 = .ok (.idiv, 1) := by decide +kernel
set_option maxRecDepth 20000 in
theorem dX1_addWay_23 : decode cX1_addWay 23 = .ok (.iastore, 1) := by decide +kernel
set_option maxRecDepth 20000 in
theorem dX1_addWay_24 : decode cX1_addWay 24 = .ok (.aload 4, 2) := by decide +kernel
set_option maxRecDepth 20000 in
theorem dX1_addWay_26 : decode cX1_addWay 26 = .ok (.iconst 2, 1) := by decide +kernel
set_option maxRecDepth 20000 in
theorem dX1_addWay_27 : decode cX1_addWay 27 = .ok (.iload_n 2, 1) := by decide +kernel
set_option maxRecDepth 20000 in
theorem dX1_addWay_28 : decode cX1_addWay 28 = .ok (.bipush 100, 2) := by decide +kernel
set_option maxRecDepth 20000 in
theorem dX1_addWay_30 : decode cX1_addWay 30 = .ok (.irem, 1) := by decide +kernel
set_option maxRecDepth 20000 in
theorem dX1_addWay_31 : decode cX1_addWay 31 = .ok (.iastore, 1) := by decide +kernel
set_option maxRecDepth 20000 in
theorem dX1_addWay_32 : decode cX1_addWay 32 = .ok (.aload 4, 2) := by decide +kernel
set_option maxRecDepth 20000 in
theorem dX1_addWay_34 : decode cX1_addWay 34 = .ok (.iconst 3, 1) := by decide +kernel
set_option maxRecDepth 20000 in
theorem dX1_addWay_35 : decode cX1_addWay 35 = .ok (.iload_n 3, 1) := by decide +kernel
set_option maxRecDepth 20000 in
theorem dX1_addWay_36 : decode cX1_addWay 36 = .ok (.iastore, 1) := by decide +kernel
set_option maxRecDepth 20000 in
theorem dX1_addWay_37 : decode cX1_addWay 37 = .ok (.aload 4, 2) := by decide +kernel
set_option maxRecDepth 20000 in
theorem dX1_addWay_39 : decode cX1_addWay 39 = .ok (.iconst 4, 1) := by decide +kernel
set_option maxRecDepth 20000 in
theorem dX1_addWay_40 : decode cX1_addWay 40 = .ok (.iconst 0, 1) := by decide +kernel
set_option maxRecDepth 20000 in
theorem dX1_addWay_41 : decode cX1_addWay 41 = .ok (.iastore, 1) := by decide +kernel
set_option maxRecDepth 20000 in
theorem dX1_addWay_42 : decode cX1_addWay 42 = .ok (.aload 4, 2) := by decide +kernel
set_option maxRecDepth 20000 in
theorem dX1_addWay_44 : decode cX1_addWay 44 = .ok (.iconst 5, 1) := by decide +kernel
set_option maxRecDepth 20000 in
theorem dX1_addWay_45 : decode cX1_addWay 45 = .ok (.iconst 0, 1) := by decide +kernel
set_option maxRecDepth 20000 in
theorem dX1_addWay_46 : decode cX1_addWay 46 = .ok (.iastore, 1) := by decide +kernel
set_option maxRecDepth 20000 in
theorem dX1_addWay_47 : decode cX1_addWay 47 = .ok (.aload_n 0, 1) := by decide +kernel
set_option maxRecDepth 20000 in
theorem dX1_addWay_48 : decode cX1_addWay 48 = .ok (.dup, 1) := by decide +kernel
set_option maxRecDepth 20000 in
theorem dX1_addWay_49 : decode cX1_addWay 49 = .ok (.getfield 27, 3) := by decide +kernel
set_option maxRecDepth 20000 in
theorem dX1_addWay_52 : decode cX1_addWay 52 = .ok (.iconst 1, 1) := by decide +kernel
set_option maxRecDepth 20000 in
theorem dX1_addWay_53 : decode cX1_addWay 53 = .ok (.iadd, 1) := by decide +kernel
set_option maxRecDepth 20000 in
theorem dX1_addWay_54 : decode cX1_addWay 54 = .ok (.putfield 27, 3) := by decide +kernel
set_option maxRecDepth 20000 in
theorem dX1_addWay_57 : decode cX1_addWay 57 = .ok (.aload_n 0, 1) := by decide +kernel
set_option maxRecDepth 20000 in
theorem dX1_addWay_58 : decode cX1_addWay 58 = .ok (.getfield 27, 3) := by decide +kernel
set_option maxRecDepth 20000 in
theorem dX1_addWay_61 : decode cX1_addWay 61 = .ok (.iconst 1, 1) := by decide +kernel
set_option maxRecDepth 20000 in
theorem dX1_addWay_62 : decode cX1_addWay 62 = .ok (.isub, 1) := by decide +kernel
set_option maxRecDepth 20000 in
theorem dX1_addWay_63 : decode cX1_addWay 63 = .ok (.ireturn, 1) := by decide +kernel
set_option maxRecDepth 20000 in
theorem dX1_addThing_0 : decode cX1_addThing 0 = .ok (.aload_n 0, 1) := by decide +kernel
set_option maxRecDepth 20000 in
theorem dX1_addThing_1 : decode cX1_addThing 1 = .ok (.getfield 30, 3) := by decide +kernel
set_option maxRecDepth 20000 in
theorem dX1_addThing_4 : decode cX1_addThing 4 = .ok (.aload_n 0, 1) := by decide +kernel
set_option maxRecDepth 20000 in
theorem dX1_addThing_5 : decode cX1_addThing 5 = .ok (.getfield 33, 3) := by decide +kernel
set_option maxRecDepth 20000 in
theorem dX1_addThing_8 : decode cX1_addThing 8 = .ok (.aaload, 1) := by decide +kernel
set_option maxRecDepth 20000 in
theorem dX1_addThing_9 : decode cX1_addThing 9 = .ok (.astore_n 3, 1) := by decide +kernel
set_option maxRecDepth 20000 in
theorem dX1_addThing_10 : decode cX1_addThing 10 = .ok (.aload_n 3, 1) := by decide +kernel
set_option maxRecDepth 20000 in
theorem dX1_addThing_11 : decode cX1_addThing 11 = .ok (.iconst 0, 1) := by decide +kernel
set_option maxRecDepth 20000 in
theorem dX1_addThing_12 : decode cX1_addThing 12 = .ok (.iload_n 1, 1) := by decide +kernel
set_option maxRecDepth 20000 in
theorem dX1_addThing_13 : decode cX1_addThing 13 = .ok (.iastore, 1) := by decide +kernel
set_option maxRecDepth 20000 in
theorem dX1_addThing_14 : decode cX1_addThing 14 = .ok (.aload_n 3, 1) := by decide +kernel
set_option maxRecDepth 20000 in
theorem dX1_addThing_15 : decode cX1_addThing 15 = .ok (.iconst 1, 1) := by decide +kernel
set_option maxRecDepth 20000 in
theorem dX1_addThing_16 : decode cX1_addThing 16 = .ok (.iload_n 2, 1) := by decide +kernel
set_option maxRecDepth 20000 in
theorem dX1_addThing_17 : decode cX1_addThing 17 = .ok (.iastore, 1) := by decide +kernel
set_option maxRecDepth 20000 in
theorem dX1_addThing_18 : decode cX1_addThing 18 = .ok (.aload_n 3, 1) := by decide +kernel
set_option maxRecDepth 20000 in
theorem dX1_addThing_19 : decode cX1_addThing 19 = .ok (.iconst 2, 1) := by decide +kernel
set_option maxRecDepth 20000 in
theorem dX1_addThing_20 : decode cX1_addThing 20 = .ok (.iconst 0, 1) := by decide +kernel
set_option maxRecDepth 20000 in
theorem dX1_addThing_21 : decode cX1_addThing 21 = .ok (.iastore, 1) := by decide +kernel
set_option maxRecDepth 20000 in
theorem dX1_addThing_22 : decode cX1_addThing 22 = .ok (.aload_n 0, 1) := by decide +kernel
set_option maxRecDepth 20000 in
theorem dX1_addThing_23 : decode cX1_addThing 23 = .ok (.dup, 1) := by decide +kernel
set_option maxRecDepth 20000 in
theorem dX1_addThing_24 : decode cX1_addThing 24 = .ok (.getfield 33, 3) := by decide +kernel
set_option maxRecDepth 20000 in
theorem dX1_addThing_27 : decode cX1_addThing 27 = .ok (.iconst 1, 1) := by decide +kernel
set_option maxRecDepth 20000 in
theorem dX1_addThing_28 : decode cX1_addThing 28 = .ok (.iadd, 1) := by decide +kernel
set_option maxRecDepth 20000 in
theorem dX1_addThing_29 : decode cX1_addThing 29 = .ok (.putfield 33, 3) := by decide +kernel
set_option maxRecDepth 20000 in
theorem dX1_addThing_32 : decode cX1_addThing 32 = .ok (.aload_n 0, 1) := by decide +kernel
set_option maxRecDepth 20000 in
theorem dX1_addThing_33 : decode cX1_addThing 33 = .ok (.getfield 33, 3) := by decide +kernel
set_option maxRecDepth 20000 in
theorem dX1_addThing_36 : decode cX1_addThing 36 = .ok (.iconst 1, 1) := by decide +kernel
set_option maxRecDepth 20000 in
theorem dX1_addThing_37 : decode cX1_addThing 37 = .ok (.isub, 1) := by decide +kernel
set_option maxRecDepth 20000 in
theorem dX1_addThing_38 : decode cX1_addThing 38 = .ok (.ireturn, 1) := by decide +kernel
set_option maxRecDepth 20000 in
theorem dX1_wayPart_0 : decode cX1_wayPart 0 = .ok (.iload_n 2, 1) := by decide +kernel
set_option maxRecDepth 20000 in
theorem dX1_wayPart_1 : decode cX1_wayPart 1 = .ok (.bipush 6, 2) := by decide +kernel
set_option maxRecDepth 20000 in
theorem dX1_wayPart_3 : decode cX1_wayPart 3 = .ok (.if_icmp .ne 16, 3) := by decide +kernel
set_option maxRecDepth 20000 in
theorem dX1_wayPart_6 : decode cX1_wayPart 6 = .ok (.aload_n 0, 1) := by decide +kernel
set_option maxRecDepth 20000 in
theorem dX1_wayPart_7 : decode cX1_wayPart 7 = .ok (.aload_n 0, 1) := by decide +kernel
set_option maxRecDepth 20000 in
theorem dX1_wayPart_8 : decode cX1_wayPart 8 = .ok (.getfield 24, 3) := by decide +kernel
set_option maxRecDepth 20000 in
theorem dX1_wayPart_11 : decode cX1_wayPart 11 = .ok (.iload_n 1, 1) := by decide +kernel
set_option maxRecDepth 20000 in
theorem dX1_wayPart_12 : decode cX1_wayPart 12 = .ok (.aaload, 1) := by decide +kernel
set_option maxRecDepth 20000 in
theorem dX1_wayPart_13 : decode cX1_wayPart 13 = .ok (.invokevirtual 55, 3) := by decide +kernel
set_option maxRecDepth 20000 in
theorem dX1_wayPart_16 : decode cX1_wayPart 16 = .ok (.goto 11, 3) := by decide +kernel
set_option maxRecDepth 20000 in
theorem dX1_wayPart_19 : decode cX1_wayPart 19 = .ok (.aload_n 0, 1) := by decide +kernel
set_option maxRecDepth 20000 in
theorem dX1_wayPart_20 : decode cX1_wayPart 20 = .ok (.getfield 24, 3) := by decide +kernel
set_option maxRecDepth 20000 in
theorem dX1_wayPart_23 : decode cX1_wayPart 23 = .ok (.iload_n 1, 1) := by decide +kernel
set_option maxRecDepth 20000 in
theorem dX1_wayPart_24 : decode cX1_wayPart 24 = .ok (.aaload, 1) := by decide +kernel
set_option maxRecDepth 20000 in
theorem dX1_wayPart_25 : decode cX1_wayPart 25 = .ok (.iload_n 2, 1) := by decide +kernel
set_option maxRecDepth 20000 in
theorem dX1_wayPart_26 : decode cX1_wayPart 26 = .ok (.iaload, 1) := by decide +kernel
set_option maxRecDepth 20000 in
theorem dX1_wayPart_27 : decode cX1_wayPart 27 = .ok (.ireturn, 1) := by decide +kernel
set_option maxRecDepth 20000 in
theorem dX1_mendWay_0 : decode cX1_mendWay 0 = .ok (.aload_n 0, 1) := by decide +kernel
set_option maxRecDepth 20000 in
theorem dX1_mendWay_1 : decode cX1_mendWay 1 = .ok (.getfield 24, 3) := by decide +kernel
set_option maxRecDepth 20000 in
theorem dX1_mendWay_4 : decode cX1_mendWay 4 = .ok (.iload_n 1, 1) := by decide +kernel
set_option maxRecDepth 20000 in
theorem dX1_mendWay_5 : decode cX1_mendWay 5 = .ok (.aaload, 1) := by decide +kernel
set_option maxRecDepth 20000 in
theorem dX1_mendWay_6 : decode cX1_mendWay 6 = .ok (.iconst 1, 1) := by decide +kernel
set_option maxRecDepth 20000 in
theorem dX1_mendWay_7 : decode cX1_mendWay 7 = .ok (.bipush 99, 2) := by decide +kernel
set_option maxRecDepth 20000 in
theorem dX1_mendWay_9 : decode cX1_mendWay 9 = .ok (.aload_n 0, 1) := by decide +kernel
set_option maxRecDepth 20000 in
theorem dX1_mendWay_10 : decode cX1_mendWay 10 = .ok (.getfield 24, 3) := by decide +kernel
set_option maxRecDepth 20000 in
theorem dX1_mendWay_13 : decode cX1_mendWay 13 = .ok (.iload_n 1, 1) := by decide +kernel
set_option maxRecDepth 20000 in
theorem dX1_mendWay_14 : decode cX1_mendWay 14 = .ok (.aaload, 1) := by decide +kernel
set_option maxRecDepth 20000 in
theorem dX1_mendWay_15 : decode cX1_mendWay 15 = .ok (.iconst 1, 1) := by decide +kernel
set_option maxRecDepth 20000 in
theorem dX1_mendWay_16 : decode cX1_mendWay 16 = .ok (.iaload, 1) := by decide +kernel
set_option maxRecDepth 20000 in
theorem dX1_mendWay_17 : decode cX1_mendWay 17 = .ok (.bipush 50, 2) := by decide +kernel
set_option maxRecDepth 20000 in
theorem dX1_mendWay_19 : decode cX1_mendWay 19 = .ok (.iadd, 1) := by decide +kernel
set_option maxRecDepth 20000 in
theorem dX1_mendWay_20 : decode cX1_mendWay 20 = .ok (.invokestatic 59, 3) := by decide +kernel
set_option maxRecDepth 20000 in
theorem dX1_mendWay_23 : decode cX1_mendWay 23 = .ok (.iastore, 1) := by decide +kernel
set_option maxRecDepth 20000 in
theorem dX1_mendWay_24 : decode cX1_mendWay 24 = .ok (.aload_n 0, 1) := by decide +kernel
set_option maxRecDepth 20000 in
theorem dX1_mendWay_25 : decode cX1_mendWay 25 = .ok (.getfield 24, 3) := by decide +kernel
set_option maxRecDepth 20000 in
theorem dX1_mendWay_28 : decode cX1_mendWay 28 = .ok (.iload_n 1, 1) := by decide +kernel
set_option maxRecDepth 20000 in
theorem dX1_mendWay_29 : decode cX1_mendWay 29 = .ok (.aaload, 1) := by decide +kernel
set_option maxRecDepth 20000 in
theorem dX1_mendWay_30 : decode cX1_mendWay 30 = .ok (.iconst 4, 1) := by decide +kernel
set_option maxRecDepth 20000 in
theorem dX1_mendWay_31 : decode cX1_mendWay 31 = .ok (.iconst 0, 1) := by decide +kernel
set_option maxRecDepth 20000 in
theorem dX1_mendWay_32 : decode cX1_mendWay 32 = .ok (.iastore, 1) := by decide +kernel
set_option maxRecDepth 20000 in
theorem dX1_mendWay_33 : decode cX1_mendWay 33 = .ok (.return_, 1) := by decide +kernel
set_option maxRecDepth 20000 in
theorem dX1_idleThings_0 : decode cX1_idleThings 0 = .ok (.iconst 0, 1) := by decide +kernel
set_option maxRecDepth 20000 in
theorem dX1_idleThings_1 : decode cX1_idleThings 1 = .ok (.istore_n 1, 1) := by decide +kernel
set_option maxRecDepth 20000 in
theorem dX1_idleThings_2 : decode cX1_idleThings 2 = .ok (.iconst 0, 1) := by decide +kernel
set_option maxRecDepth 20000 in
theorem dX1_idleThings_3 : decode cX1_idleThings 3 = .ok (.istore_n 2, 1) := by decide +kernel
set_option maxRecDepth 20000 in
theorem dX1_idleThings_4 : decode cX1_idleThings 4 = .ok (.iload_n 2, 1) := by decide +kernel
set_option maxRecDepth 20000 in
theorem dX1_idleThings_5 : decode cX1_idleThings 5 = .ok (.aload_n 0, 1) := by decide +kernel
set_option maxRecDepth 20000 in
theorem dX1_idleThings_6 : decode cX1_idleThings 6 = .ok (.getfield 33, 3) := by decide +kernel
set_option maxRecDepth 20000 in
theorem dX1_idleThings_9 : decode cX1_idleThings 9 = .ok (.if_icmp .ge 22, 3) := by decide +kernel
set_option maxRecDepth 20000 in
theorem dX1_idleThings_12 : decode cX1_idleThings 12 = .ok (.iload_n 1, 1) := by decide +kernel
set_option maxRecDepth 20000 in
theorem dX1_idleThings_13 : decode cX1_idleThings 13 = .ok (.iconst 1, 1) := by decide +kernel
set_option maxRecDepth 20000 in
theorem dX1_idleThings_14 : decode cX1_idleThings 14 = .ok (.aload_n 0, 1) := by decide +kernel
set_option maxRecDepth 20000 in
theorem dX1_idleThings_15 : decode cX1_idleThings 15 = .ok (.getfield 30, 3) := by decide +kernel
set_option maxRecDepth 20000 in
theorem dX1_idleThings_18 : decode cX1_idleThings 18 = .ok (.iload_n 2, 1) := by decide +kernel
set_option maxRecDepth 20000 in
theorem dX1_idleThings_19 : decode cX1_idleThings 19 = .ok (.aaload, 1) := by decide +kernel
set_option maxRecDepth 20000 in
theorem dX1_idleThings_20 : decode cX1_idleThings 20 = .ok (.iconst 2, 1) := by decide +kernel
set_option maxRecDepth 20000 in
theorem dX1_idleThings_21 : decode cX1_idleThings 21 = .ok (.iaload, 1) := by decide +kernel
set_option maxRecDepth 20000 in
theorem dX1_idleThings_22 : decode cX1_idleThings 22 = .ok (.isub, 1) := by decide +kernel
set_option maxRecDepth 20000 in
theorem dX1_idleThings_23 : decode cX1_idleThings 23 = .ok (.iadd, 1) := by decide +kernel
set_option maxRecDepth 20000 in
theorem dX1_idleThings_24 : decode cX1_idleThings 24 = .ok (.istore_n 1, 1) := by decide +kernel
set_option maxRecDepth 20000 in
theorem dX1_idleThings_25 : decode cX1_idleThings 25 = .ok (.iinc 2 1, 3) := by decide +kernel
set_option maxRecDepth 20000 in
theorem dX1_idleThings_28 : decode cX1_idleThings 28 = .ok (.goto (-24), 3) := by decide +kernel
set_option maxRecDepth 20000 in
theorem dX1_idleThings_31 : decode cX1_idleThings 31 = .ok (.iload_n 1, 1) := by decide +kernel
set_option maxRecDepth 20000 in
theorem dX1_idleThings_32 : decode cX1_idleThings 32 = .ok (.ireturn, 1) := by decide +kernel
set_option maxRecDepth 20000 in
theorem dX1_fear_0 : decode cX1_fear 0 = .ok (.aload_n 0, 1) := by decide +kernel
set_option maxRecDepth 20000 in
theorem dX1_fear_1 : decode cX1_fear 1 = .ok (.getfield 9, 3) := by decide +kernel
set_option maxRecDepth 20000 in
theorem dX1_fear_4 : decode cX1_fear 4 = .ok (.iconst 3, 1) := by decide +kernel
set_option maxRecDepth 20000 in
theorem dX1_fear_5 : decode cX1_fear 5 = .ok (.iaload, 1) := by decide +kernel
set_option maxRecDepth 20000 in
theorem dX1_fear_6 : decode cX1_fear 6 = .ok (.istore_n 1, 1) := by decide +kernel
set_option maxRecDepth 20000 in
theorem dX1_fear_7 : decode cX1_fear 7 = .ok (.iconst 0, 1) := by decide +kernel
set_option maxRecDepth 20000 in
theorem dX1_fear_8 : decode cX1_fear 8 = .ok (.istore_n 2, 1) := by decide +kernel
set_option maxRecDepth 20000 in
theorem dX1_fear_9 : decode cX1_fear 9 = .ok (.iload_n 2, 1) := by decide +kernel
set_option maxRecDepth 20000 in
theorem dX1_fear_10 : decode cX1_fear 10 = .ok (.aload_n 0, 1) := by decide +kernel
set_option maxRecDepth 20000 in
theorem dX1_fear_11 : decode cX1_fear 11 = .ok (.getfield 33, 3) := by decide +kernel
set_option maxRecDepth 20000 in
theorem dX1_fear_14 : decode cX1_fear 14 = .ok (.if_icmp .ge 32, 3) := by decide +kernel
set_option maxRecDepth 20000 in
theorem dX1_fear_17 : decode cX1_fear 17 = .ok (.aload_n 0, 1) := by decide +kernel
set_option maxRecDepth 20000 in
theorem dX1_fear_18 : decode cX1_fear 18 = .ok (.getfield 30, 3) := by decide +kernel
set_option maxRecDepth 20000 in
theorem dX1_fear_21 : decode cX1_fear 21 = .ok (.iload_n 2, 1) := by decide +kernel
set_option maxRecDepth 20000 in
theorem dX1_fear_22 : decode cX1_fear 22 = .ok (.aaload, 1) := by decide +kernel
set_option maxRecDepth 20000 in
theorem dX1_fear_23 : decode cX1_fear 23 = .ok (.iconst 2, 1) := by decide +kernel
set_option maxRecDepth 20000 in
theorem dX1_fear_24 : decode cX1_fear 24 = .ok (.iaload, 1) := by decide +kernel
set_option maxRecDepth 20000 in
theorem dX1_fear_25 : decode cX1_fear 25 = .ok (.iconst 1, 1) := by decide +kernel
set_option maxRecDepth 20000 in
theorem dX1_fear_26 : decode cX1_fear 26 = .ok (.if_icmp .ne 14, 3) := by decide +kernel
set_option maxRecDepth 20000 in
theorem dX1_fear_29 : decode cX1_fear 29 = .ok (.iload_n 1, 1) := by decide +kernel
set_option maxRecDepth 20000 in
theorem dX1_fear_30 : decode cX1_fear 30 = .ok (.aload_n 0, 1) := by decide +kernel
set_option maxRecDepth 20000 in
theorem dX1_fear_31 : decode cX1_fear 31 = .ok (.getfield 30, 3) := by decide +kernel
set_option maxRecDepth 20000 in
theorem dX1_fear_34 : decode cX1_fear 34 = .ok (.iload_n 2, 1) := by decide +kernel
set_option maxRecDepth 20000 in
theorem dX1_fear_35 : decode cX1_fear 35 = .ok (.aaload, 1) := by decide +kernel
set_option maxRecDepth 20000 in
theorem dX1_fear_36 : decode cX1_fear 36 = .ok (.iconst 0, 1) := by decide +kernel
set_option maxRecDepth 20000 in
theorem dX1_fear_37 : decode cX1_fear 37 = .ok (.iaload, 1) := by decide +kernel
set_option maxRecDepth 20000 in
theorem dX1_fear_38 : decode cX1_fear 38 = .ok (.iadd, 1) := by decide +kernel
set_option maxRecDepth 20000 in
theorem dX1_fear_39 : decode cX1_fear 39 = .ok (.istore_n 1, 1) := by decide +kernel
set_option maxRecDepth 20000 in
theorem dX1_fear_40 : decode cX1_fear 40 = .ok (.iinc 2 1, 3) := by decide +kernel
set_option maxRecDepth 20000 in
theorem dX1_fear_43 : decode cX1_fear 43 = .ok (.goto (-34), 3) := by decide +kernel
set_option maxRecDepth 20000 in
theorem dX1_fear_46 : decode cX1_fear 46 = .ok (.iload_n 1, 1) := by decide +kernel
set_option maxRecDepth 20000 in
theorem dX1_fear_47 : decode cX1_fear 47 = .ok (.ireturn, 1) := by decide +kernel
set_option maxRecDepth 20000 in
theorem dX1_boldness_0 : decode cX1_boldness 0 = .ok (.aload_n 0, 1) := by decide +kernel
set_option maxRecDepth 20000 in
theorem dX1_boldness_1 : decode cX1_boldness 1 = .ok (.getfield 9, 3) := by decide +kernel
set_option maxRecDepth 20000 in
theorem dX1_boldness_4 : decode cX1_boldness 4 = .ok (.iconst 2, 1) := by decide +kernel
set_option maxRecDepth 20000 in
theorem dX1_boldness_5 : decode cX1_boldness 5 = .ok (.iaload, 1) := by decide +kernel
set_option maxRecDepth 20000 in
theorem dX1_boldness_6 : decode cX1_boldness 6 = .ok (.aload_n 0, 1) := by decide +kernel
set_option maxRecDepth 20000 in
theorem dX1_boldness_7 : decode cX1_boldness 7 = .ok (.invokevirtual 65, 3) := by decide +kernel
set_option maxRecDepth 20000 in
theorem dX1_boldness_10 : decode cX1_boldness 10 = .ok (.isub, 1) := by decide +kernel
set_option maxRecDepth 20000 in
theorem dX1_boldness_11 : decode cX1_boldness 11 = .ok (.iconst 5, 1) := by decide +kernel
set_option maxRecDepth 20000 in
theorem dX1_boldness_12 : decode cX1_boldness 12 = .ok (.aload_n 0, 1) := by decide +kernel
set_option maxRecDepth 20000 in
theorem dX1_boldness_13 : decode cX1_boldness 13 = .ok (.getfield 9, 3) := by decide +kernel
set_option maxRecDepth 20000 in
theorem dX1_boldness_16 : decode cX1_boldness 16 = .ok (.iconst 1, 1) := by decide +kernel
set_option maxRecDepth 20000 in
theorem dX1_boldness_17 : decode cX1_boldness 17 = .ok (.iaload, 1) := by decide +kernel
set_option maxRecDepth 20000 in
theorem dX1_boldness_18 : decode cX1_boldness 18 = .ok (.imul, 1) := by decide +kernel
set_option maxRecDepth 20000 in
theorem dX1_boldness_19 : decode cX1_boldness 19 = .ok (.iadd, 1) := by decide +kernel
set_option maxRecDepth 20000 in
theorem dX1_boldness_20 : decode cX1_boldness 20 = .ok (.ireturn, 1) := by decide +kernel
set_option maxRecDepth 20000 in
theorem dX1_ease_0 : decode cX1_ease 0 = .ok (.aload_n 1, 1) := by decide +kernel
set_option maxRecDepth 20000 in
theorem dX1_ease_1 : decode cX1_ease 1 = .ok (.iconst 0, 1) := by decide +kernel
set_option maxRecDepth 20000 in
theorem dX1_ease_2 : decode cX1_ease 2 = .ok (.iaload, 1) := by decide +kernel
set_option maxRecDepth 20000 in
theorem dX1_ease_3 : decode cX1_ease 3 = .ok (.tableswitch 102 1 6 #[37, 70, 86, 76, 92, 43], 37) := by decide +kernel
set_option maxRecDepth 20000 in
theorem dX1_ease_40 : decode cX1_ease 40 = .ok (.aload_n 0, 1) := by decide +kernel
set_option maxRecDepth 20000 in
theorem dX1_ease_41 : decode cX1_ease 41 = .ok (.aload_n 1, 1) := by decide +kernel
set_option maxRecDepth 20000 in
theorem dX1_ease_42 : decode cX1_ease 42 = .ok (.invokevirtual 69, 3) := by decide +kernel
set_option maxRecDepth 20000 in
theorem dX1_ease_45 : decode cX1_ease 45 = .ok (.ireturn, 1) := by decide +kernel
set_option maxRecDepth 20000 in
theorem dX1_ease_46 : decode cX1_ease 46 = .ok (.aload_n 0, 1) := by decide +kernel
set_option maxRecDepth 20000 in
theorem dX1_ease_47 : decode cX1_ease 47 = .ok (.aload_n 1, 1) := by decide +kernel
set_option maxRecDepth 20000 in
theorem dX1_ease_48 : decode cX1_ease 48 = .ok (.invokevirtual 69, 3) := by decide +kernel
set_option maxRecDepth 20000 in
theorem dX1_ease_51 : decode cX1_ease 51 = .ok (.aload_n 0, 1) := by decide +kernel
set_option maxRecDepth 20000 in
theorem dX1_ease_52 : decode cX1_ease 52 = .ok (.invokevirtual 72, 3) := by decide +kernel
set_option maxRecDepth 20000 in
theorem dX1_ease_55 : decode cX1_ease 55 = .ok (.iconst 5, 1) := by decide +kernel
set_option maxRecDepth 20000 in
theorem dX1_ease_56 : decode cX1_ease 56 = .ok (.bipush 7, 2) := by decide +kernel
set_option maxRecDepth 20000 in
theorem dX1_ease_58 : decode cX1_ease 58 = .ok (.invokestatic 51, 3) := by decide +kernel
set_option maxRecDepth 20000 in
theorem dX1_ease_61 : decode cX1_ease 61 = .ok (.ifCond .eq 9, 3) := by decide +kernel
set_option maxRecDepth 20000 in
theorem dX1_ease_64 : decode cX1_ease 64 = .ok (.aload_n 1, 1) := by decide +kernel
set_option maxRecDepth 20000 in
theorem dX1_ease_65 : decode cX1_ease 65 = .ok (.iconst 2, 1) := by decide +kernel
set_option maxRecDepth 20000 in
theorem dX1_ease_66 : decode cX1_ease 66 = .ok (.iaload, 1) := by decide +kernel
set_option maxRecDepth 20000 in
theorem dX1_ease_67 : decode cX1_ease 67 = .ok (.goto 4, 3) := by decide +kernel
set_option maxRecDepth 20000 in
theorem dX1_ease_70 : decode cX1_ease 70 = .ok (.iconst 0, 1) := by decide +kernel
set_option maxRecDepth 20000 in
theorem dX1_ease_71 : decode cX1_ease 71 = .ok (.isub, 1) := by decide +kernel
set_option maxRecDepth 20000 in
theorem dX1_ease_72 : decode cX1_ease 72 = .ok (.ireturn, 1) := by decide +kernel
set_option maxRecDepth 20000 in
theorem dX1_ease_73 : decode cX1_ease 73 = .ok (.aload_n 0, 1) := by decide +kernel
set_option maxRecDepth 20000 in
theorem dX1_ease_74 : decode cX1_ease 74 = .ok (.aload_n 1, 1) := by decide +kernel
set_option maxRecDepth 20000 in
theorem dX1_ease_75 : decode cX1_ease 75 = .ok (.invokevirtual 75, 3) := by decide +kernel
set_option maxRecDepth 20000 in
theorem dX1_ease_78 : decode cX1_ease 78 = .ok (.ireturn, 1) := by decide +kernel
set_option maxRecDepth 20000 in
theorem dX1_ease_79 : decode cX1_ease 79 = .ok (.aload_n 0, 1) := by decide +kernel
set_option maxRecDepth 20000 in
theorem dX1_ease_80 : decode cX1_ease 80 = .ok (.aload_n 1, 1) := by decide +kernel
set_option maxRecDepth 20000 in
theorem dX1_ease_81 : decode cX1_ease 81 = .ok (.invokevirtual 75, 3) := by decide +kernel
set_option maxRecDepth 20000 in
theorem dX1_ease_84 : decode cX1_ease 84 = .ok (.aload_n 1, 1) := by decide +kernel
set_option maxRecDepth 20000 in
theorem dX1_ease_85 : decode cX1_ease 85 = .ok (.iconst 2, 1) := by decide +kernel
set_option maxRecDepth 20000 in
theorem dX1_ease_86 : decode cX1_ease 86 = .ok (.iaload, 1) := by decide +kernel
set_option maxRecDepth 20000 in
theorem dX1_ease_87 : decode cX1_ease 87 = .ok (.isub, 1) := by decide +kernel
set_option maxRecDepth 20000 in
theorem dX1_ease_88 : decode cX1_ease 88 = .ok (.ireturn, 1) := by decide +kernel
set_option maxRecDepth 20000 in
theorem dX1_ease_89 : decode cX1_ease 89 = .ok (.aload_n 0, 1) := by decide +kernel
set_option maxRecDepth 20000 in
theorem dX1_ease_90 : decode cX1_ease 90 = .ok (.aload_n 1, 1) := by decide +kernel
set_option maxRecDepth 20000 in
theorem dX1_ease_91 : decode cX1_ease 91 = .ok (.invokevirtual 78, 3) := by decide +kernel
set_option maxRecDepth 20000 in
theorem dX1_ease_94 : decode cX1_ease 94 = .ok (.ireturn, 1) := by decide +kernel
set_option maxRecDepth 20000 in
theorem dX1_ease_95 : decode cX1_ease 95 = .ok (.aload_n 0, 1) := by decide +kernel
set_option maxRecDepth 20000 in
theorem dX1_ease_96 : decode cX1_ease 96 = .ok (.aload_n 1, 1) := by decide +kernel
set_option maxRecDepth 20000 in
theorem dX1_ease_97 : decode cX1_ease 97 = .ok (.invokevirtual 78, 3) := by decide +kernel
set_option maxRecDepth 20000 in
theorem dX1_ease_100 : decode cX1_ease 100 = .ok (.aload_n 1, 1) := by decide +kernel
set_option maxRecDepth 20000 in
theorem dX1_ease_101 : decode cX1_ease 101 = .ok (.iconst 2, 1) := by decide +kernel
set_option maxRecDepth 20000 in
theorem dX1_ease_102 : decode cX1_ease 102 = .ok (.iaload, 1) := by decide +kernel
set_option maxRecDepth 20000 in
theorem dX1_ease_103 : decode cX1_ease 103 = .ok (.iadd, 1) := by decide +kernel
set_option maxRecDepth 20000 in
theorem dX1_ease_104 : decode cX1_ease 104 = .ok (.ireturn, 1) := by decide +kernel
set_option maxRecDepth 20000 in
theorem dX1_ease_105 : decode cX1_ease 105 = .ok (.bipush 99, 2) := by decide +kernel
set_option maxRecDepth 20000 in
theorem dX1_ease_107 : decode cX1_ease 107 = .ok (.aload_n 1, 1) := by decide +kernel
set_option maxRecDepth 20000 in
theorem dX1_ease_108 : decode cX1_ease 108 = .ok (.iconst 1, 1) := by decide +kernel
set_option maxRecDepth 20000 in
theorem dX1_ease_109 : decode cX1_ease 109 = .ok (.iaload, 1) := by decide +kernel
set_option maxRecDepth 20000 in
theorem dX1_ease_110 : decode cX1_ease 110 = .ok (.isub, 1) := by decide +kernel
set_option maxRecDepth 20000 in
theorem dX1_ease_111 : decode cX1_ease 111 = .ok (.ireturn, 1) := by decide +kernel
set_option maxRecDepth 20000 in
theorem dX1_doorEase_0 : decode cX1_doorEase 0 = .ok (.aload_n 0, 1) := by decide +kernel
set_option maxRecDepth 20000 in
theorem dX1_doorEase_1 : decode cX1_doorEase 1 = .ok (.getfield 9, 3) := by decide +kernel
set_option maxRecDepth 20000 in
theorem dX1_doorEase_4 : decode cX1_doorEase 4 = .ok (.iconst 4, 1) := by decide +kernel
set_option maxRecDepth 20000 in
theorem dX1_doorEase_5 : decode cX1_doorEase 5 = .ok (.iaload, 1) := by decide +kernel
set_option maxRecDepth 20000 in
theorem dX1_doorEase_6 : decode cX1_doorEase 6 = .ok (.iconst 1, 1) := by decide +kernel
set_option maxRecDepth 20000 in
theorem dX1_doorEase_7 : decode cX1_doorEase 7 = .ok (.if_icmp .ne 8, 3) := by decide +kernel
set_option maxRecDepth 20000 in
theorem dX1_doorEase_10 : decode cX1_doorEase 10 = .ok (.bipush 99, 2) := by decide +kernel
set_option maxRecDepth 20000 in
theorem dX1_doorEase_12 : decode cX1_doorEase 12 = .ok (.goto 9, 3) := by decide +kernel
set_option maxRecDepth 20000 in
theorem dX1_doorEase_15 : decode cX1_doorEase 15 = .ok (.bipush 99, 2) := by decide +kernel
set_option maxRecDepth 20000 in
theorem dX1_doorEase_17 : decode cX1_doorEase 17 = .ok (.aload_n 1, 1) := by decide +kernel
set_option maxRecDepth 20000 in
theorem dX1_doorEase_18 : decode cX1_doorEase 18 = .ok (.iconst 1, 1) := by decide +kernel
set_option maxRecDepth 20000 in
theorem dX1_doorEase_19 : decode cX1_doorEase 19 = .ok (.iaload, 1) := by decide +kernel
set_option maxRecDepth 20000 in
theorem dX1_doorEase_20 : decode cX1_doorEase 20 = .ok (.isub, 1) := by decide +kernel
set_option maxRecDepth 20000 in
theorem dX1_doorEase_21 : decode cX1_doorEase 21 = .ok (.ireturn, 1) := by decide +kernel
set_option maxRecDepth 20000 in
theorem dX1_dugEase_0 : decode cX1_dugEase 0 = .ok (.aload_n 0, 1) := by decide +kernel
set_option maxRecDepth 20000 in
theorem dX1_dugEase_1 : decode cX1_dugEase 1 = .ok (.invokevirtual 72, 3) := by decide +kernel
set_option maxRecDepth 20000 in
theorem dX1_dugEase_4 : decode cX1_dugEase 4 = .ok (.iconst 1, 1) := by decide +kernel
set_option maxRecDepth 20000 in
theorem dX1_dugEase_5 : decode cX1_dugEase 5 = .ok (.if_icmp .le 12, 3) := by decide +kernel
set_option maxRecDepth 20000 in
theorem dX1_dugEase_8 : decode cX1_dugEase 8 = .ok (.aload_n 0, 1) := by decide +kernel
set_option maxRecDepth 20000 in
theorem dX1_dugEase_9 : decode cX1_dugEase 9 = .ok (.invokevirtual 72, 3) := by decide +kernel
set_option maxRecDepth 20000 in
theorem dX1_dugEase_12 : decode cX1_dugEase 12 = .ok (.bipush 11, 2) := by decide +kernel
set_option maxRecDepth 20000 in
theorem dX1_dugEase_14 : decode cX1_dugEase 14 = .ok (.if_icmp .ne 8, 3) := by decide +kernel
set_option maxRecDepth 20000 in
theorem dX1_dugEase_17 : decode cX1_dugEase 17 = .ok (.bipush 20, 2) := by decide +kernel
set_option maxRecDepth 20000 in
theorem dX1_dugEase_19 : decode cX1_dugEase 19 = .ok (.goto 4, 3) := by decide +kernel
set_option maxRecDepth 20000 in
theorem dX1_dugEase_22 : decode cX1_dugEase 22 = .ok (.iconst 0, 1) := by decide +kernel
set_option maxRecDepth 20000 in
theorem dX1_dugEase_23 : decode cX1_dugEase 23 = .ok (.istore_n 2, 1) := by decide +kernel
set_option maxRecDepth 20000 in
theorem dX1_dugEase_24 : decode cX1_dugEase 24 = .ok (.bipush 99, 2) := by decide +kernel
set_option maxRecDepth 20000 in
theorem dX1_dugEase_26 : decode cX1_dugEase 26 = .ok (.aload_n 1, 1) := by decide +kernel
set_option maxRecDepth 20000 in
theorem dX1_dugEase_27 : decode cX1_dugEase 27 = .ok (.iconst 1, 1) := by decide +kernel
set_option maxRecDepth 20000 in
theorem dX1_dugEase_28 : decode cX1_dugEase 28 = .ok (.iaload, 1) := by decide +kernel
set_option maxRecDepth 20000 in
theorem dX1_dugEase_29 : decode cX1_dugEase 29 = .ok (.isub, 1) := by decide +kernel
set_option maxRecDepth 20000 in
theorem dX1_dugEase_30 : decode cX1_dugEase 30 = .ok (.iconst 3, 1) := by decide +kernel
set_option maxRecDepth 20000 in
theorem dX1_dugEase_31 : decode cX1_dugEase 31 = .ok (.aload_n 1, 1) := by decide +kernel
set_option maxRecDepth 20000 in
theorem dX1_dugEase_32 : decode cX1_dugEase 32 = .ok (.iconst 4, 1) := by decide +kernel
set_option maxRecDepth 20000 in
theorem dX1_dugEase_33 : decode cX1_dugEase 33 = .ok (.iaload, 1) := by decide +kernel
set_option maxRecDepth 20000 in
theorem dX1_dugEase_34 : decode cX1_dugEase 34 = .ok (.imul, 1) := by decide +kernel
set_option maxRecDepth 20000 in
theorem dX1_dugEase_35 : decode cX1_dugEase 35 = .ok (.iadd, 1) := by decide +kernel
set_option maxRecDepth 20000 in
theorem dX1_dugEase_36 : decode cX1_dugEase 36 = .ok (.iload_n 2, 1) := by decide +kernel
set_option maxRecDepth 20000 in
theorem dX1_dugEase_37 : decode cX1_dugEase 37 = .ok (.isub, 1) := by decide +kernel
set_option maxRecDepth 20000 in
theorem dX1_dugEase_38 : decode cX1_dugEase 38 = .ok (.ireturn, 1) := by decide +kernel
set_option maxRecDepth 20000 in
theorem dX1_looseEase_0 : decode cX1_looseEase 0 = .ok (.bipush 99, 2) := by decide +kernel
set_option maxRecDepth 20000 in
theorem dX1_looseEase_2 : decode cX1_looseEase 2 = .ok (.aload_n 1, 1) := by decide +kernel
set_option maxRecDepth 20000 in
theorem dX1_looseEase_3 : decode cX1_looseEase 3 = .ok (.iconst 1, 1) := by decide +kernel
set_option maxRecDepth 20000 in
theorem dX1_looseEase_4 : decode cX1_looseEase 4 = .ok (.iaload, 1) := by decide +kernel
set_option maxRecDepth 20000 in
theorem dX1_looseEase_5 : decode cX1_looseEase 5 = .ok (.isub, 1) := by decide +kernel
set_option maxRecDepth 20000 in
theorem dX1_looseEase_6 : decode cX1_looseEase 6 = .ok (.iconst 5, 1) := by decide +kernel
set_option maxRecDepth 20000 in
theorem dX1_looseEase_7 : decode cX1_looseEase 7 = .ok (.aload_n 1, 1) := by decide +kernel
set_option maxRecDepth 20000 in
theorem dX1_looseEase_8 : decode cX1_looseEase 8 = .ok (.iconst 4, 1) := by decide +kernel
set_option maxRecDepth 20000 in
theorem dX1_looseEase_9 : decode cX1_looseEase 9 = .ok (.iaload, 1) := by decide +kernel
set_option maxRecDepth 20000 in
theorem dX1_looseEase_10 : decode cX1_looseEase 10 = .ok (.imul, 1) := by decide +kernel
set_option maxRecDepth 20000 in
theorem dX1_looseEase_11 : decode cX1_looseEase 11 = .ok (.iadd, 1) := by decide +kernel
set_option maxRecDepth 20000 in
theorem dX1_looseEase_12 : decode cX1_looseEase 12 = .ok (.ireturn, 1) := by decide +kernel
set_option maxRecDepth 20000 in
theorem dX1_month_0 : decode cX1_month 0 = .ok (.aload_n 0, 1) := by decide +kernel
set_option maxRecDepth 20000 in
theorem dX1_month_1 : decode cX1_month 1 = .ok (.getfield 15, 3) := by decide +kernel
set_option maxRecDepth 20000 in
theorem dX1_month_4 : decode cX1_month 4 = .ok (.bipush 30, 2) := by decide +kernel
set_option maxRecDepth 20000 in
theorem dX1_month_6 : decode cX1_month 6 = .ok (.idiv, 1) := by decide +kernel
set_option maxRecDepth 20000 in
theorem dX1_month_7 : decode cX1_month 7 = .ok (.bipush 12, 2) := by decide +kernel
set_option maxRecDepth 20000 in
theorem dX1_month_9 : decode cX1_month 9 = .ok (.irem, 1) := by decide +kernel
set_option maxRecDepth 20000 in
theorem dX1_month_10 : decode cX1_month 10 = .ok (.ireturn, 1) := by decide +kernel
set_option maxRecDepth 20000 in
theorem dX1_passNight_0 : decode cX1_passNight 0 = .ok (.aload_n 0, 1) := by decide +kernel
set_option maxRecDepth 20000 in
theorem dX1_passNight_1 : decode cX1_passNight 1 = .ok (.aload_n 0, 1) := by decide +kernel
set_option maxRecDepth 20000 in
theorem dX1_passNight_2 : decode cX1_passNight 2 = .ok (.getfield 9, 3) := by decide +kernel
set_option maxRecDepth 20000 in
theorem dX1_passNight_5 : decode cX1_passNight 5 = .ok (.iconst 0, 1) := by decide +kernel
set_option maxRecDepth 20000 in
theorem dX1_passNight_6 : decode cX1_passNight 6 = .ok (.iaload, 1) := by decide +kernel
set_option maxRecDepth 20000 in
theorem dX1_passNight_7 : decode cX1_passNight 7 = .ok (.ifCond .le 11, 3) := by decide +kernel
set_option maxRecDepth 20000 in
theorem dX1_passNight_10 : decode cX1_passNight 10 = .ok (.aload_n 0, 1) := by decide +kernel
set_option maxRecDepth 20000 in
theorem dX1_passNight_11 : decode cX1_passNight 11 = .ok (.aload_n 1, 1) := by decide +kernel
set_option maxRecDepth 20000 in
theorem dX1_passNight_12 : decode cX1_passNight 12 = .ok (.invokevirtual 81, 3) := by decide +kernel
set_option maxRecDepth 20000 in
theorem dX1_passNight_15 : decode cX1_passNight 15 = .ok (.goto 4, 3) := by decide +kernel
set_option maxRecDepth 20000 in
theorem dX1_passNight_18 : decode cX1_passNight 18 = .ok (.iconst (-1), 1) := by decide +kernel
set_option maxRecDepth 20000 in
theorem dX1_passNight_19 : decode cX1_passNight 19 = .ok (.putfield 36, 3) := by decide +kernel
set_option maxRecDepth 20000 in
theorem dX1_passNight_22 : decode cX1_passNight 22 = .ok (.aload_n 0, 1) := by decide +kernel
set_option maxRecDepth 20000 in
theorem dX1_passNight_23 : decode cX1_passNight 23 = .ok (.getfield 36, 3) := by decide +kernel
set_option maxRecDepth 20000 in
theorem dX1_passNight_26 : decode cX1_passNight 26 = .ok (.ifCond .lt 20, 3) := by decide +kernel
set_option maxRecDepth 20000 in
theorem dX1_passNight_29 : decode cX1_passNight 29 = .ok (.aload_n 0, 1) := by decide +kernel
set_option maxRecDepth 20000 in
theorem dX1_passNight_30 : decode cX1_passNight 30 = .ok (.aload_n 0, 1) := by decide +kernel
set_option maxRecDepth 20000 in
theorem dX1_passNight_31 : decode cX1_passNight 31 = .ok (.getfield 24, 3) := by decide +kernel
set_option maxRecDepth 20000 in
theorem dX1_passNight_34 : decode cX1_passNight 34 = .ok (.aload_n 0, 1) := by decide +kernel
set_option maxRecDepth 20000 in
theorem dX1_passNight_35 : decode cX1_passNight 35 = .ok (.getfield 36, 3) := by decide +kernel
set_option maxRecDepth 20000 in
theorem dX1_passNight_38 : decode cX1_passNight 38 = .ok (.aaload, 1) := by decide +kernel
set_option maxRecDepth 20000 in
theorem dX1_passNight_39 : decode cX1_passNight 39 = .ok (.aload_n 1, 1) := by decide +kernel
set_option maxRecDepth 20000 in
theorem dX1_passNight_40 : decode cX1_passNight 40 = .ok (.invokevirtual 85, 3) := by decide +kernel
set_option maxRecDepth 20000 in
theorem dX1_passNight_43 : decode cX1_passNight 43 = .ok (.goto 22, 3) := by decide +kernel
set_option maxRecDepth 20000 in
theorem dX1_passNight_46 : decode cX1_passNight 46 = .ok (.aload_n 0, 1) := by decide +kernel
set_option maxRecDepth 20000 in
theorem dX1_passNight_47 : decode cX1_passNight 47 = .ok (.getfield 9, 3) := by decide +kernel
set_option maxRecDepth 20000 in
theorem dX1_passNight_50 : decode cX1_passNight 50 = .ok (.iconst 2, 1) := by decide +kernel
set_option maxRecDepth 20000 in
theorem dX1_passNight_51 : decode cX1_passNight 51 = .ok (.bipush 99, 2) := by decide +kernel
set_option maxRecDepth 20000 in
theorem dX1_passNight_53 : decode cX1_passNight 53 = .ok (.aload_n 0, 1) := by decide +kernel
set_option maxRecDepth 20000 in
theorem dX1_passNight_54 : decode cX1_passNight 54 = .ok (.getfield 9, 3) := by decide +kernel
set_option maxRecDepth 20000 in
theorem dX1_passNight_57 : decode cX1_passNight 57 = .ok (.iconst 2, 1) := by decide +kernel
set_option maxRecDepth 20000 in
theorem dX1_passNight_58 : decode cX1_passNight 58 = .ok (.iaload, 1) := by decide +kernel
set_option maxRecDepth 20000 in
theorem dX1_passNight_59 : decode cX1_passNight 59 = .ok (.iconst 5, 1) := by decide +kernel
set_option maxRecDepth 20000 in
theorem dX1_passNight_60 : decode cX1_passNight 60 = .ok (.iadd, 1) := by decide +kernel
set_option maxRecDepth 20000 in
theorem dX1_passNight_61 : decode cX1_passNight 61 = .ok (.invokestatic 59, 3) := by decide +kernel
set_option maxRecDepth 20000 in
theorem dX1_passNight_64 : decode cX1_passNight 64 = .ok (.iastore, 1) := by decide +kernel
set_option maxRecDepth 20000 in
theorem dX1_passNight_65 : decode cX1_passNight 65 = .ok (.iconst 0, 1) := by decide +kernel
set_option maxRecDepth 20000 in
theorem dX1_passNight_66 : decode cX1_passNight 66 = .ok (.istore_n 2, 1) := by decide +kernel
set_option maxRecDepth 20000 in
theorem dX1_passNight_67 : decode cX1_passNight 67 = .ok (.iload_n 2, 1) := by decide +kernel
set_option maxRecDepth 20000 in
theorem dX1_passNight_68 : decode cX1_passNight 68 = .ok (.aload_n 0, 1) := by decide +kernel
set_option maxRecDepth 20000 in
theorem dX1_passNight_69 : decode cX1_passNight 69 = .ok (.getfield 33, 3) := by decide +kernel
set_option maxRecDepth 20000 in
theorem dX1_passNight_72 : decode cX1_passNight 72 = .ok (.if_icmp .ge 37, 3) := by decide +kernel
set_option maxRecDepth 20000 in
theorem dX1_passNight_75 : decode cX1_passNight 75 = .ok (.aload_n 0, 1) := by decide +kernel
set_option maxRecDepth 20000 in
theorem dX1_passNight_76 : decode cX1_passNight 76 = .ok (.getfield 30, 3) := by decide +kernel
set_option maxRecDepth 20000 in
theorem dX1_passNight_79 : decode cX1_passNight 79 = .ok (.iload_n 2, 1) := by decide +kernel
set_option maxRecDepth 20000 in
theorem dX1_passNight_80 : decode cX1_passNight 80 = .ok (.aaload, 1) := by decide +kernel
set_option maxRecDepth 20000 in
theorem dX1_passNight_81 : decode cX1_passNight 81 = .ok (.astore_n 3, 1) := by decide +kernel
set_option maxRecDepth 20000 in
theorem dX1_passNight_82 : decode cX1_passNight 82 = .ok (.aload_n 3, 1) := by decide +kernel
set_option maxRecDepth 20000 in
theorem dX1_passNight_83 : decode cX1_passNight 83 = .ok (.iconst 2, 1) := by decide +kernel
set_option maxRecDepth 20000 in
theorem dX1_passNight_84 : decode cX1_passNight 84 = .ok (.iaload, 1) := by decide +kernel
set_option maxRecDepth 20000 in
theorem dX1_passNight_85 : decode cX1_passNight 85 = .ok (.iconst 1, 1) := by decide +kernel
set_option maxRecDepth 20000 in
theorem dX1_passNight_86 : decode cX1_passNight 86 = .ok (.if_icmp .ne 17, 3) := by decide +kernel
set_option maxRecDepth 20000 in
theorem dX1_passNight_89 : decode cX1_passNight 89 = .ok (.aload_n 3, 1) := by decide +kernel
set_option maxRecDepth 20000 in
theorem dX1_passNight_90 : decode cX1_passNight 90 = .ok (.iconst 0, 1) := by decide +kernel
set_option maxRecDepth 20000 in
theorem dX1_passNight_91 : decode cX1_passNight 91 = .ok (.iconst 0, 1) := by decide +kernel
set_option maxRecDepth 20000 in
theorem dX1_passNight_92 : decode cX1_passNight 92 = .ok (.aload_n 3, 1) := by decide +kernel
set_option maxRecDepth 20000 in
theorem dX1_passNight_93 : decode cX1_passNight 93 = .ok (.iconst 0, 1) := by decide +kernel
set_option maxRecDepth 20000 in
theorem dX1_passNight_94 : decode cX1_passNight 94 = .ok (.iaload, 1) := by decide +kernel
set_option maxRecDepth 20000 in
theorem dX1_passNight_95 : decode cX1_passNight 95 = .ok (.aload_n 3, 1) := by decide +kernel
set_option maxRecDepth 20000 in
theorem dX1_passNight_96 : decode cX1_passNight 96 = .ok (.iconst 1, 1) := by decide +kernel
set_option maxRecDepth 20000 in
theorem dX1_passNight_97 : decode cX1_passNight 97 = .ok (.iaload, 1) := by decide +kernel
set_option maxRecDepth 20000 in
theorem dX1_passNight_98 : decode cX1_passNight 98 = .ok (.isub, 1) := by decide +kernel
set_option maxRecDepth 20000 in
theorem dX1_passNight_99 : decode cX1_passNight 99 = .ok (.invokestatic 89, 3) := by decide +kernel
set_option maxRecDepth 20000 in
theorem dX1_passNight_102 : decode cX1_passNight 102 = .ok (.iastore, 1) := by decide +kernel
set_option maxRecDepth 20000 in
theorem dX1_passNight_103 : decode cX1_passNight 103 = .ok (.iinc 2 1, 3) := by decide +kernel
set_option maxRecDepth 20000 in
theorem dX1_passNight_106 : decode cX1_passNight 106 = .ok (.goto (-39), 3) := by decide +kernel
set_option maxRecDepth 20000 in
theorem dX1_passNight_109 : decode cX1_passNight 109 = .ok (.aload_n 0, 1) := by decide +kernel
set_option maxRecDepth 20000 in
theorem dX1_passNight_110 : decode cX1_passNight 110 = .ok (.getfield 9, 3) := by decide +kernel
set_option maxRecDepth 20000 in
theorem dX1_passNight_113 : decode cX1_passNight 113 = .ok (.iconst 3, 1) := by decide +kernel
set_option maxRecDepth 20000 in
theorem dX1_passNight_114 : decode cX1_passNight 114 = .ok (.aload_n 1, 1) := by decide +kernel
set_option maxRecDepth 20000 in
theorem dX1_passNight_115 : decode cX1_passNight 115 = .ok (.aload_n 0, 1) := by decide +kernel
set_option maxRecDepth 20000 in
theorem dX1_passNight_116 : decode cX1_passNight 116 = .ok (.getfield 9, 3) := by decide +kernel
set_option maxRecDepth 20000 in
theorem dX1_passNight_119 : decode cX1_passNight 119 = .ok (.iconst 3, 1) := by decide +kernel
set_option maxRecDepth 20000 in
theorem dX1_passNight_120 : decode cX1_passNight 120 = .ok (.iaload, 1) := by decide +kernel
set_option maxRecDepth 20000 in
theorem dX1_passNight_121 : decode cX1_passNight 121 = .ok (.aload_n 0, 1) := by decide +kernel
set_option maxRecDepth 20000 in
theorem dX1_passNight_122 : decode cX1_passNight 122 = .ok (.getfield 15, 3) := by decide +kernel
set_option maxRecDepth 20000 in
theorem dX1_passNight_125 : decode cX1_passNight 125 = .ok (.invokevirtual 92, 3) := by decide +kernel
set_option maxRecDepth 20000 in
theorem dX1_passNight_128 : decode cX1_passNight 128 = .ok (.iastore, 1) := by decide +kernel
set_option maxRecDepth 20000 in
theorem dX1_passNight_129 : decode cX1_passNight 129 = .ok (.aload_n 0, 1) := by decide +kernel
set_option maxRecDepth 20000 in
theorem dX1_passNight_130 : decode cX1_passNight 130 = .ok (.getfield 9, 3) := by decide +kernel
set_option maxRecDepth 20000 in
theorem dX1_passNight_133 : decode cX1_passNight 133 = .ok (.iconst 4, 1) := by decide +kernel
set_option maxRecDepth 20000 in
theorem dX1_passNight_134 : decode cX1_passNight 134 = .ok (.iconst 0, 1) := by decide +kernel
set_option maxRecDepth 20000 in
theorem dX1_passNight_135 : decode cX1_passNight 135 = .ok (.iastore, 1) := by decide +kernel
set_option maxRecDepth 20000 in
theorem dX1_passNight_136 : decode cX1_passNight 136 = .ok (.aload_n 0, 1) := by decide +kernel
set_option maxRecDepth 20000 in
theorem dX1_passNight_137 : decode cX1_passNight 137 = .ok (.dup, 1) := by decide +kernel
set_option maxRecDepth 20000 in
theorem dX1_passNight_138 : decode cX1_passNight 138 = .ok (.getfield 15, 3) := by decide +kernel
set_option maxRecDepth 20000 in
theorem dX1_passNight_141 : decode cX1_passNight 141 = .ok (.iconst 1, 1) := by decide +kernel
set_option maxRecDepth 20000 in
theorem dX1_passNight_142 : decode cX1_passNight 142 = .ok (.iadd, 1) := by decide +kernel
set_option maxRecDepth 20000 in
theorem dX1_passNight_143 : decode cX1_passNight 143 = .ok (.putfield 15, 3) := by decide +kernel
set_option maxRecDepth 20000 in
theorem dX1_passNight_146 : decode cX1_passNight 146 = .ok (.return_, 1) := by decide +kernel
set_option maxRecDepth 20000 in
theorem dX1_goRound_0 : decode cX1_goRound 0 = .ok (.aload_n 0, 1) := by decide +kernel
set_option maxRecDepth 20000 in
theorem dX1_goRound_1 : decode cX1_goRound 1 = .ok (.invokevirtual 97, 3) := by decide +kernel
set_option maxRecDepth 20000 in
theorem dX1_goRound_4 : decode cX1_goRound 4 = .ok (.aload_n 0, 1) := by decide +kernel
set_option maxRecDepth 20000 in
theorem dX1_goRound_5 : decode cX1_goRound 5 = .ok (.invokevirtual 100, 3) := by decide +kernel
set_option maxRecDepth 20000 in
theorem dX1_goRound_8 : decode cX1_goRound 8 = .ok (.istore_n 2, 1) := by decide +kernel
set_option maxRecDepth 20000 in
theorem dX1_goRound_9 : decode cX1_goRound 9 = .ok (.iconst 0, 1) := by decide +kernel
set_option maxRecDepth 20000 in
theorem dX1_goRound_10 : decode cX1_goRound 10 = .ok (.istore_n 3, 1) := by decide +kernel
set_option maxRecDepth 20000 in
theorem dX1_goRound_11 : decode cX1_goRound 11 = .ok (.iconst 0, 1) := by decide +kernel
set_option maxRecDepth 20000 in
theorem dX1_goRound_12 : decode cX1_goRound 12 = .ok (.istore 4, 2) := by decide +kernel
set_option maxRecDepth 20000 in
theorem dX1_goRound_14 : decode cX1_goRound 14 = .ok (.iload 4, 2) := by decide +kernel
set_option maxRecDepth 20000 in
theorem dX1_goRound_16 : decode cX1_goRound 16 = .ok (.aload_n 0, 1) := by decide +kernel
set_option maxRecDepth 20000 in
theorem dX1_goRound_17 : decode cX1_goRound 17 = .ok (.getfield 27, 3) := by decide +kernel
set_option maxRecDepth 20000 in
theorem dX1_goRound_20 : decode cX1_goRound 20 = .ok (.if_icmp .ge 105, 3) := by decide +kernel
set_option maxRecDepth 20000 in
theorem dX1_goRound_23 : decode cX1_goRound 23 = .ok (.aload_n 0, 1) := by decide +kernel
set_option maxRecDepth 20000 in
theorem dX1_goRound_24 : decode cX1_goRound 24 = .ok (.getfield 24, 3) := by decide +kernel
set_option maxRecDepth 20000 in
theorem dX1_goRound_27 : decode cX1_goRound 27 = .ok (.aload_n 0, 1) := by decide +kernel
set_option maxRecDepth 20000 in
theorem dX1_goRound_28 : decode cX1_goRound 28 = .ok (.getfield 39, 3) := by decide +kernel
set_option maxRecDepth 20000 in
theorem dX1_goRound_31 : decode cX1_goRound 31 = .ok (.iload 4, 2) := by decide +kernel
set_option maxRecDepth 20000 in
theorem dX1_goRound_33 : decode cX1_goRound 33 = .ok (.iaload, 1) := by decide +kernel
set_option maxRecDepth 20000 in
theorem dX1_goRound_34 : decode cX1_goRound 34 = .ok (.aaload, 1) := by decide +kernel
set_option maxRecDepth 20000 in
theorem dX1_goRound_35 : decode cX1_goRound 35 = .ok (.astore 5, 2) := by decide +kernel
set_option maxRecDepth 20000 in
theorem dX1_goRound_37 : decode cX1_goRound 37 = .ok (.iload_n 3, 1) := by decide +kernel
set_option maxRecDepth 20000 in
theorem dX1_goRound_38 : decode cX1_goRound 38 = .ok (.bipush 20, 2) := by decide +kernel
set_option maxRecDepth 20000 in
theorem dX1_goRound_40 : decode cX1_goRound 40 = .ok (.aload 5, 2) := by decide +kernel
set_option maxRecDepth 20000 in
theorem dX1_goRound_42 : decode cX1_goRound 42 = .ok (.iconst 1, 1) := by decide +kernel
set_option maxRecDepth 20000 in
theorem dX1_goRound_43 : decode cX1_goRound 43 = .ok (.iaload, 1) := by decide +kernel
set_option maxRecDepth 20000 in
theorem dX1_goRound_44 : decode cX1_goRound 44 = .ok (.iconst 2, 1) := by decide +kernel
set_option maxRecDepth 20000 in
theorem dX1_goRound_45 : decode cX1_goRound 45 = .ok (.idiv, 1) := by decide +kernel
set_option maxRecDepth 20000 in
theorem dX1_goRound_46 : decode cX1_goRound 46 = .ok (.iadd, 1) := by decide +kernel
set_option maxRecDepth 20000 in
theorem dX1_goRound_47 : decode cX1_goRound 47 = .ok (.iadd, 1) := by decide +kernel
set_option maxRecDepth 20000 in
theorem dX1_goRound_48 : decode cX1_goRound 48 = .ok (.istore_n 3, 1) := by decide +kernel
set_option maxRecDepth 20000 in
theorem dX1_goRound_49 : decode cX1_goRound 49 = .ok (.iload_n 3, 1) := by decide +kernel
set_option maxRecDepth 20000 in
theorem dX1_goRound_50 : decode cX1_goRound 50 = .ok (.aload_n 0, 1) := by decide +kernel
set_option maxRecDepth 20000 in
theorem dX1_goRound_51 : decode cX1_goRound 51 = .ok (.getfield 9, 3) := by decide +kernel
set_option maxRecDepth 20000 in
theorem dX1_goRound_54 : decode cX1_goRound 54 = .ok (.iconst 5, 1) := by decide +kernel
set_option maxRecDepth 20000 in
theorem dX1_goRound_55 : decode cX1_goRound 55 = .ok (.iaload, 1) := by decide +kernel
set_option maxRecDepth 20000 in
theorem dX1_goRound_56 : decode cX1_goRound 56 = .ok (.if_icmp .le 5, 3) := by decide +kernel
set_option maxRecDepth 20000 in
theorem dX1_goRound_59 : decode cX1_goRound 59 = .ok (.iconst (-1), 1) := by decide +kernel
set_option maxRecDepth 20000 in
theorem dX1_goRound_60 : decode cX1_goRound 60 = .ok (.ireturn, 1) := by decide +kernel
set_option maxRecDepth 20000 in
theorem dX1_goRound_61 : decode cX1_goRound 61 = .ok (.aload_n 0, 1) := by decide +kernel
set_option maxRecDepth 20000 in
theorem dX1_goRound_62 : decode cX1_goRound 62 = .ok (.aload 5, 2) := by decide +kernel
set_option maxRecDepth 20000 in
theorem dX1_goRound_64 : decode cX1_goRound 64 = .ok (.invokevirtual 55, 3) := by decide +kernel
set_option maxRecDepth 20000 in
theorem dX1_goRound_67 : decode cX1_goRound 67 = .ok (.istore 6, 2) := by decide +kernel
set_option maxRecDepth 20000 in
theorem dX1_goRound_69 : decode cX1_goRound 69 = .ok (.aload_n 1, 1) := by decide +kernel
set_option maxRecDepth 20000 in
theorem dX1_goRound_70 : decode cX1_goRound 70 = .ok (.iload 6, 2) := by decide +kernel
set_option maxRecDepth 20000 in
theorem dX1_goRound_72 : decode cX1_goRound 72 = .ok (.iload_n 2, 1) := by decide +kernel
set_option maxRecDepth 20000 in
theorem dX1_goRound_73 : decode cX1_goRound 73 = .ok (.aload 5, 2) := by decide +kernel
set_option maxRecDepth 20000 in
theorem dX1_goRound_75 : decode cX1_goRound 75 = .ok (.iconst 5, 1) := by decide +kernel
set_option maxRecDepth 20000 in
theorem dX1_goRound_76 : decode cX1_goRound 76 = .ok (.iaload, 1) := by decide +kernel
set_option maxRecDepth 20000 in
theorem dX1_goRound_77 : decode cX1_goRound 77 = .ok (.aload 5, 2) := by decide +kernel
set_option maxRecDepth 20000 in
theorem dX1_goRound_79 : decode cX1_goRound 79 = .ok (.iconst 4, 1) := by decide +kernel
set_option maxRecDepth 20000 in
theorem dX1_goRound_80 : decode cX1_goRound 80 = .ok (.iaload, 1) := by decide +kernel
set_option maxRecDepth 20000 in
theorem dX1_goRound_81 : decode cX1_goRound 81 = .ok (.aload_n 0, 1) := by decide +kernel
set_option maxRecDepth 20000 in
theorem dX1_goRound_82 : decode cX1_goRound 82 = .ok (.getfield 15, 3) := by decide +kernel
set_option maxRecDepth 20000 in
theorem dX1_goRound_85 : decode cX1_goRound 85 = .ok (.invokevirtual 103, 3) := by decide +kernel
set_option maxRecDepth 20000 in
theorem dX1_goRound_88 : decode cX1_goRound 88 = .ok (.ifCond .eq 11, 3) := by decide +kernel
set_option maxRecDepth 20000 in
theorem dX1_goRound_91 : decode cX1_goRound 91 = .ok (.aload_n 0, 1) := by decide +kernel
set_option maxRecDepth 20000 in
theorem dX1_goRound_92 : decode cX1_goRound 92 = .ok (.getfield 39, 3) := by decide +kernel
set_option maxRecDepth 20000 in
theorem dX1_goRound_95 : decode cX1_goRound 95 = .ok (.iload 4, 2) := by decide +kernel
set_option maxRecDepth 20000 in
theorem dX1_goRound_97 : decode cX1_goRound 97 = .ok (.iaload, 1) := by decide +kernel
set_option maxRecDepth 20000 in
theorem dX1_goRound_98 : decode cX1_goRound 98 = .ok (.ireturn, 1) := by decide +kernel
set_option maxRecDepth 20000 in
theorem dX1_goRound_99 : decode cX1_goRound 99 = .ok (.aload_n 0, 1) := by decide +kernel
set_option maxRecDepth 20000 in
theorem dX1_goRound_100 : decode cX1_goRound 100 = .ok (.aload 5, 2) := by decide +kernel
set_option maxRecDepth 20000 in
theorem dX1_goRound_102 : decode cX1_goRound 102 = .ok (.iload 6, 2) := by decide +kernel
set_option maxRecDepth 20000 in
theorem dX1_goRound_104 : decode cX1_goRound 104 = .ok (.iload_n 2, 1) := by decide +kernel
set_option maxRecDepth 20000 in
theorem dX1_goRound_105 : decode cX1_goRound 105 = .ok (.iadd, 1) := by decide +kernel
set_option maxRecDepth 20000 in
theorem dX1_goRound_106 : decode cX1_goRound 106 = .ok (.bipush 70, 2) := by decide +kernel
set_option maxRecDepth 20000 in
theorem dX1_goRound_108 : decode cX1_goRound 108 = .ok (.if_icmp .lt 7, 3) := by decide +kernel
set_option maxRecDepth 20000 in
theorem dX1_goRound_111 : decode cX1_goRound 111 = .ok (.iconst 1, 1) := by decide +kernel
set_option maxRecDepth 20000 in
theorem dX1_goRound_112 : decode cX1_goRound 112 = .ok (.goto 4, 3) := by decide +kernel
set_option maxRecDepth 20000 in
theorem dX1_goRound_115 : decode cX1_goRound 115 = .ok (.iconst 0, 1) := by decide +kernel
set_option maxRecDepth 20000 in
theorem dX1_goRound_116 : decode cX1_goRound 116 = .ok (.invokevirtual 107, 3) := by decide +kernel
set_option maxRecDepth 20000 in
theorem dX1_goRound_119 : decode cX1_goRound 119 = .ok (.iinc 4 1, 3) := by decide +kernel
set_option maxRecDepth 20000 in
theorem dX1_goRound_122 : decode cX1_goRound 122 = .ok (.goto (-108), 3) := by decide +kernel
set_option maxRecDepth 20000 in
theorem dX1_goRound_125 : decode cX1_goRound 125 = .ok (.iconst (-1), 1) := by decide +kernel
set_option maxRecDepth 20000 in
theorem dX1_goRound_126 : decode cX1_goRound 126 = .ok (.ireturn, 1) := by decide +kernel
set_option maxRecDepth 20000 in
theorem dX1_orderByMemory_0 : decode cX1_orderByMemory 0 = .ok (.iconst 0, 1) := by decide +kernel
set_option maxRecDepth 20000 in
theorem dX1_orderByMemory_1 : decode cX1_orderByMemory 1 = .ok (.istore_n 1, 1) := by decide +kernel
set_option maxRecDepth 20000 in
theorem dX1_orderByMemory_2 : decode cX1_orderByMemory 2 = .ok (.iload_n 1, 1) := by decide +kernel
set_option maxRecDepth 20000 in
theorem dX1_orderByMemory_3 : decode cX1_orderByMemory 3 = .ok (.aload_n 0, 1) := by decide +kernel
set_option maxRecDepth 20000 in
theorem dX1_orderByMemory_4 : decode cX1_orderByMemory 4 = .ok (.getfield 27, 3) := by decide +kernel
set_option maxRecDepth 20000 in
theorem dX1_orderByMemory_7 : decode cX1_orderByMemory 7 = .ok (.if_icmp .ge 68, 3) := by decide +kernel
set_option maxRecDepth 20000 in
theorem dX1_orderByMemory_10 : decode cX1_orderByMemory 10 = .ok (.iload_n 1, 1) := by decide +kernel
set_option maxRecDepth 20000 in
theorem dX1_orderByMemory_11 : decode cX1_orderByMemory 11 = .ok (.istore_n 2, 1) := by decide +kernel
set_option maxRecDepth 20000 in
theorem dX1_orderByMemory_12 : decode cX1_orderByMemory 12 = .ok (.iload_n 2, 1) := by decide +kernel
set_option maxRecDepth 20000 in
theorem dX1_orderByMemory_13 : decode cX1_orderByMemory 13 = .ok (.ifCond .le 49, 3) := by decide +kernel
set_option maxRecDepth 20000 in
theorem dX1_orderByMemory_16 : decode cX1_orderByMemory 16 = .ok (.aload_n 0, 1) := by decide +kernel
set_option maxRecDepth 20000 in
theorem dX1_orderByMemory_17 : decode cX1_orderByMemory 17 = .ok (.getfield 24, 3) := by decide +kernel
set_option maxRecDepth 20000 in
theorem dX1_orderByMemory_20 : decode cX1_orderByMemory 20 = .ok (.aload_n 0, 1) := by decide +kernel
set_option maxRecDepth 20000 in
theorem dX1_orderByMemory_21 : decode cX1_orderByMemory 21 = .ok (.getfield 39, 3) := by decide +kernel
set_option maxRecDepth 20000 in
theorem dX1_orderByMemory_24 : decode cX1_orderByMemory 24 = .ok (.iload_n 2, 1) := by decide +kernel
set_option maxRecDepth 20000 in
theorem dX1_orderByMemory_25 : decode cX1_orderByMemory 25 = .ok (.iconst 1, 1) := by decide +kernel
set_option maxRecDepth 20000 in
theorem dX1_orderByMemory_26 : decode cX1_orderByMemory 26 = .ok (.isub, 1) := by decide +kernel
set_option maxRecDepth 20000 in
theorem dX1_orderByMemory_27 : decode cX1_orderByMemory 27 = .ok (.iaload, 1) := by decide +kernel
set_option maxRecDepth 20000 in
theorem dX1_orderByMemory_28 : decode cX1_orderByMemory 28 = .ok (.aaload, 1) := by decide +kernel
set_option maxRecDepth 20000 in
theorem dX1_orderByMemory_29 : decode cX1_orderByMemory 29 = .ok (.iconst 5, 1) := by decide +kernel
set_option maxRecDepth 20000 in
theorem dX1_orderByMemory_30 : decode cX1_orderByMemory 30 = .ok (.iaload, 1) := by decide +kernel
set_option maxRecDepth 20000 in
theorem dX1_orderByMemory_31 : decode cX1_orderByMemory 31 = .ok (.aload_n 0, 1) := by decide +kernel
set_option maxRecDepth 20000 in
theorem dX1_orderByMemory_32 : decode cX1_orderByMemory 32 = .ok (.getfield 24, 3) := by decide +kernel
set_option maxRecDepth 20000 in
theorem dX1_orderByMemory_35 : decode cX1_orderByMemory 35 = .ok (.iload_n 1, 1) := by decide +kernel
set_option maxRecDepth 20000 in
theorem dX1_orderByMemory_36 : decode cX1_orderByMemory 36 = .ok (.aaload, 1) := by decide +kernel
set_option maxRecDepth 20000 in
theorem dX1_orderByMemory_37 : decode cX1_orderByMemory 37 = .ok (.iconst 5, 1) := by decide +kernel
set_option maxRecDepth 20000 in
theorem dX1_orderByMemory_38 : decode cX1_orderByMemory 38 = .ok (.iaload, 1) := by decide +kernel
set_option maxRecDepth 20000 in
theorem dX1_orderByMemory_39 : decode cX1_orderByMemory 39 = .ok (.if_icmp .ge 23, 3) := by decide +kernel
set_option maxRecDepth 20000 in
theorem dX1_orderByMemory_42 : decode cX1_orderByMemory 42 = .ok (.aload_n 0, 1) := by decide +kernel
set_option maxRecDepth 20000 in
theorem dX1_orderByMemory_43 : decode cX1_orderByMemory 43 = .ok (.getfield 39, 3) := by decide +kernel
set_option maxRecDepth 20000 in
theorem dX1_orderByMemory_46 : decode cX1_orderByMemory 46 = .ok (.iload_n 2, 1) := by decide +kernel
set_option maxRecDepth 20000 in
theorem dX1_orderByMemory_47 : decode cX1_orderByMemory 47 = .ok (.aload_n 0, 1) := by decide +kernel
set_option maxRecDepth 20000 in
theorem dX1_orderByMemory_48 : decode cX1_orderByMemory 48 = .ok (.getfield 39, 3) := by decide +kernel
set_option maxRecDepth 20000 in
theorem dX1_orderByMemory_51 : decode cX1_orderByMemory 51 = .ok (.iload_n 2, 1) := by decide +kernel
set_option maxRecDepth 20000 in
theorem dX1_orderByMemory_52 : decode cX1_orderByMemory 52 = .ok (.iconst 1, 1) := by decide +kernel
set_option maxRecDepth 20000 in
theorem dX1_orderByMemory_53 : decode cX1_orderByMemory 53 = .ok (.isub, 1) := by decide +kernel
set_option maxRecDepth 20000 in
theorem dX1_orderByMemory_54 : decode cX1_orderByMemory 54 = .ok (.iaload, 1) := by decide +kernel
set_option maxRecDepth 20000 in
theorem dX1_orderByMemory_55 : decode cX1_orderByMemory 55 = .ok (.iastore, 1) := by decide +kernel
set_option maxRecDepth 20000 in
theorem dX1_orderByMemory_56 : decode cX1_orderByMemory 56 = .ok (.iinc 2 (-1), 3) := by decide +kernel
set_option maxRecDepth 20000 in
theorem dX1_orderByMemory_59 : decode cX1_orderByMemory 59 = .ok (.goto (-47), 3) := by decide +kernel
set_option maxRecDepth 20000 in
theorem dX1_orderByMemory_62 : decode cX1_orderByMemory 62 = .ok (.aload_n 0, 1) := by decide +kernel
set_option maxRecDepth 20000 in
theorem dX1_orderByMemory_63 : decode cX1_orderByMemory 63 = .ok (.getfield 39, 3) := by decide +kernel
set_option maxRecDepth 20000 in
theorem dX1_orderByMemory_66 : decode cX1_orderByMemory 66 = .ok (.iload_n 2, 1) := by decide +kernel
set_option maxRecDepth 20000 in
theorem dX1_orderByMemory_67 : decode cX1_orderByMemory 67 = .ok (.iload_n 1, 1) := by decide +kernel
set_option maxRecDepth 20000 in
theorem dX1_orderByMemory_68 : decode cX1_orderByMemory 68 = .ok (.iastore, 1) := by decide +kernel
set_option maxRecDepth 20000 in
theorem dX1_orderByMemory_69 : decode cX1_orderByMemory 69 = .ok (.iinc 1 1, 3) := by decide +kernel
set_option maxRecDepth 20000 in
theorem dX1_orderByMemory_72 : decode cX1_orderByMemory 72 = .ok (.goto (-70), 3) := by decide +kernel
set_option maxRecDepth 20000 in
theorem dX1_orderByMemory_75 : decode cX1_orderByMemory 75 = .ok (.return_, 1) := by decide +kernel
set_option maxRecDepth 20000 in
theorem dX1_turnAway_0 : decode cX1_turnAway 0 = .ok (.aload_n 1, 1) := by decide +kernel
set_option maxRecDepth 20000 in
theorem dX1_turnAway_1 : decode cX1_turnAway 1 = .ok (.iconst 4, 1) := by decide +kernel
set_option maxRecDepth 20000 in
theorem dX1_turnAway_2 : decode cX1_turnAway 2 = .ok (.bipush 99, 2) := by decide +kernel
set_option maxRecDepth 20000 in
theorem dX1_turnAway_4 : decode cX1_turnAway 4 = .ok (.aload_n 1, 1) := by decide +kernel
set_option maxRecDepth 20000 in
theorem dX1_turnAway_5 : decode cX1_turnAway 5 = .ok (.iconst 4, 1) := by decide +kernel
set_option maxRecDepth 20000 in
theorem dX1_turnAway_6 : decode cX1_turnAway 6 = .ok (.iaload, 1) := by decide +kernel
set_option maxRecDepth 20000 in
theorem dX1_turnAway_7 : decode cX1_turnAway 7 = .ok (.iconst 1, 1) := by decide +kernel
set_option maxRecDepth 20000 in
theorem dX1_turnAway_8 : decode cX1_turnAway 8 = .ok (.iadd, 1) := by decide +kernel
set_option maxRecDepth 20000 in
theorem dX1_turnAway_9 : decode cX1_turnAway 9 = .ok (.invokestatic 59, 3) := by decide +kernel
set_option maxRecDepth 20000 in
theorem dX1_turnAway_12 : decode cX1_turnAway 12 = .ok (.iastore, 1) := by decide +kernel
set_option maxRecDepth 20000 in
theorem dX1_turnAway_13 : decode cX1_turnAway 13 = .ok (.aload_n 1, 1) := by decide +kernel
set_option maxRecDepth 20000 in
theorem dX1_turnAway_14 : decode cX1_turnAway 14 = .ok (.iconst 5, 1) := by decide +kernel
set_option maxRecDepth 20000 in
theorem dX1_turnAway_15 : decode cX1_turnAway 15 = .ok (.aload_n 1, 1) := by decide +kernel
set_option maxRecDepth 20000 in
theorem dX1_turnAway_16 : decode cX1_turnAway 16 = .ok (.iconst 5, 1) := by decide +kernel
set_option maxRecDepth 20000 in
theorem dX1_turnAway_17 : decode cX1_turnAway 17 = .ok (.iaload, 1) := by decide +kernel
set_option maxRecDepth 20000 in
theorem dX1_turnAway_18 : decode cX1_turnAway 18 = .ok (.iload_n 2, 1) := by decide +kernel
set_option maxRecDepth 20000 in
theorem dX1_turnAway_19 : decode cX1_turnAway 19 = .ok (.ifCond .eq 7, 3) := by decide +kernel
set_option maxRecDepth 20000 in
theorem dX1_turnAway_22 : decode cX1_turnAway 22 = .ok (.iconst 1, 1) := by decide +kernel
set_option maxRecDepth 20000 in
theorem dX1_turnAway_23 : decode cX1_turnAway 23 = .ok (.goto 4, 3) := by decide +kernel
set_option maxRecDepth 20000 in
theorem dX1_turnAway_26 : decode cX1_turnAway 26 = .ok (.iconst (-1), 1) := by decide +kernel
set_option maxRecDepth 20000 in
theorem dX1_turnAway_27 : decode cX1_turnAway 27 = .ok (.iadd, 1) := by decide +kernel
set_option maxRecDepth 20000 in
theorem dX1_turnAway_28 : decode cX1_turnAway 28 = .ok (.iconst 0, 1) := by decide +kernel
set_option maxRecDepth 20000 in
theorem dX1_turnAway_29 : decode cX1_turnAway 29 = .ok (.bipush 9, 2) := by decide +kernel
set_option maxRecDepth 20000 in
theorem dX1_turnAway_31 : decode cX1_turnAway 31 = .ok (.invokestatic 111, 3) := by decide +kernel
set_option maxRecDepth 20000 in
theorem dX1_turnAway_34 : decode cX1_turnAway 34 = .ok (.iastore, 1) := by decide +kernel
set_option maxRecDepth 20000 in
theorem dX1_turnAway_35 : decode cX1_turnAway 35 = .ok (.return_, 1) := by decide +kernel
set_option maxRecDepth 20000 in
theorem dX1_comeIn_0 : decode cX1_comeIn 0 = .ok (.aload_n 2, 1) := by decide +kernel
set_option maxRecDepth 20000 in
theorem dX1_comeIn_1 : decode cX1_comeIn 1 = .ok (.aload_n 0, 1) := by decide +kernel
set_option maxRecDepth 20000 in
theorem dX1_comeIn_2 : decode cX1_comeIn 2 = .ok (.getfield 9, 3) := by decide +kernel
set_option maxRecDepth 20000 in
theorem dX1_comeIn_5 : decode cX1_comeIn 5 = .ok (.iconst 0, 1) := by decide +kernel
set_option maxRecDepth 20000 in
theorem dX1_comeIn_6 : decode cX1_comeIn 6 = .ok (.iaload, 1) := by decide +kernel
set_option maxRecDepth 20000 in
theorem dX1_comeIn_7 : decode cX1_comeIn 7 = .ok (.aload_n 0, 1) := by decide +kernel
set_option maxRecDepth 20000 in
theorem dX1_comeIn_8 : decode cX1_comeIn 8 = .ok (.getfield 9, 3) := by decide +kernel
set_option maxRecDepth 20000 in
theorem dX1_comeIn_11 : decode cX1_comeIn 11 = .ok (.iconst 1, 1) := by decide +kernel
set_option maxRecDepth 20000 in
theorem dX1_comeIn_12 : decode cX1_comeIn 12 = .ok (.iaload, 1) := by decide +kernel
set_option maxRecDepth 20000 in
theorem dX1_comeIn_13 : decode cX1_comeIn 13 = .ok (.aload_n 0, 1) := by decide +kernel
set_option maxRecDepth 20000 in
theorem dX1_comeIn_14 : decode cX1_comeIn 14 = .ok (.getfield 9, 3) := by decide +kernel
set_option maxRecDepth 20000 in
theorem dX1_comeIn_17 : decode cX1_comeIn 17 = .ok (.iconst 2, 1) := by decide +kernel
set_option maxRecDepth 20000 in
theorem dX1_comeIn_18 : decode cX1_comeIn 18 = .ok (.iaload, 1) := by decide +kernel
set_option maxRecDepth 20000 in
theorem dX1_comeIn_19 : decode cX1_comeIn 19 = .ok (.invokevirtual 115, 3) := by decide +kernel
set_option maxRecDepth 20000 in
theorem dX1_comeIn_22 : decode cX1_comeIn 22 = .ok (.istore_n 3, 1) := by decide +kernel
set_option maxRecDepth 20000 in
theorem dX1_comeIn_23 : decode cX1_comeIn 23 = .ok (.aload_n 0, 1) := by decide +kernel
set_option maxRecDepth 20000 in
theorem dX1_comeIn_24 : decode cX1_comeIn 24 = .ok (.getfield 9, 3) := by decide +kernel
set_option maxRecDepth 20000 in
theorem dX1_comeIn_27 : decode cX1_comeIn 27 = .ok (.iconst 0, 1) := by decide +kernel
set_option maxRecDepth 20000 in
theorem dX1_comeIn_28 : decode cX1_comeIn 28 = .ok (.dup2, 1) := by decide +kernel
set_option maxRecDepth 20000 in
theorem dX1_comeIn_29 : decode cX1_comeIn 29 = .ok (.iaload, 1) := by decide +kernel
set_option maxRecDepth 20000 in
theorem dX1_comeIn_30 : decode cX1_comeIn 30 = .ok (.iload_n 3, 1) := by decide +kernel
set_option maxRecDepth 20000 in
theorem dX1_comeIn_31 : decode cX1_comeIn 31 = .ok (.isub, 1) := by decide +kernel
set_option maxRecDepth 20000 in
theorem dX1_comeIn_32 : decode cX1_comeIn 32 = .ok (.iastore, 1) := by decide +kernel
set_option maxRecDepth 20000 in
theorem dX1_comeIn_33 : decode cX1_comeIn 33 = .ok (.aload_n 0, 1) := by decide +kernel
set_option maxRecDepth 20000 in
theorem dX1_comeIn_34 : decode cX1_comeIn 34 = .ok (.dup, 1) := by decide +kernel
set_option maxRecDepth 20000 in
theorem dX1_comeIn_35 : decode cX1_comeIn 35 = .ok (.getfield 19, 3) := by decide +kernel
set_option maxRecDepth 20000 in
theorem dX1_comeIn_38 : decode cX1_comeIn 38 = .ok (.iload_n 3, 1) := by decide +kernel
set_option maxRecDepth 20000 in
theorem dX1_comeIn_39 : decode cX1_comeIn 39 = .ok (.iadd, 1) := by decide +kernel
set_option maxRecDepth 20000 in
theorem dX1_comeIn_40 : decode cX1_comeIn 40 = .ok (.putfield 19, 3) := by decide +kernel
set_option maxRecDepth 20000 in
theorem dX1_comeIn_43 : decode cX1_comeIn 43 = .ok (.aload_n 0, 1) := by decide +kernel
set_option maxRecDepth 20000 in
theorem dX1_comeIn_44 : decode cX1_comeIn 44 = .ok (.getfield 9, 3) := by decide +kernel
set_option maxRecDepth 20000 in
theorem dX1_comeIn_47 : decode cX1_comeIn 47 = .ok (.iconst 2, 1) := by decide +kernel
set_option maxRecDepth 20000 in
theorem dX1_comeIn_48 : decode cX1_comeIn 48 = .ok (.iconst 0, 1) := by decide +kernel
set_option maxRecDepth 20000 in
theorem dX1_comeIn_49 : decode cX1_comeIn 49 = .ok (.aload_n 0, 1) := by decide +kernel
set_option maxRecDepth 20000 in
theorem dX1_comeIn_50 : decode cX1_comeIn 50 = .ok (.getfield 9, 3) := by decide +kernel
set_option maxRecDepth 20000 in
theorem dX1_comeIn_53 : decode cX1_comeIn 53 = .ok (.iconst 2, 1) := by decide +kernel
set_option maxRecDepth 20000 in
theorem dX1_comeIn_54 : decode cX1_comeIn 54 = .ok (.iaload, 1) := by decide +kernel
set_option maxRecDepth 20000 in
theorem dX1_comeIn_55 : decode cX1_comeIn 55 = .ok (.bipush 10, 2) := by decide +kernel
set_option maxRecDepth 20000 in
theorem dX1_comeIn_57 : decode cX1_comeIn 57 = .ok (.iload_n 3, 1) := by decide +kernel
set_option maxRecDepth 20000 in
theorem dX1_comeIn_58 : decode cX1_comeIn 58 = .ok (.imul, 1) := by decide +kernel
set_option maxRecDepth 20000 in
theorem dX1_comeIn_59 : decode cX1_comeIn 59 = .ok (.isub, 1) := by decide +kernel
set_option maxRecDepth 20000 in
theorem dX1_comeIn_60 : decode cX1_comeIn 60 = .ok (.invokestatic 89, 3) := by decide +kernel
set_option maxRecDepth 20000 in
theorem dX1_comeIn_63 : decode cX1_comeIn 63 = .ok (.iastore, 1) := by decide +kernel
set_option maxRecDepth 20000 in
theorem dX1_comeIn_64 : decode cX1_comeIn 64 = .ok (.aload_n 1, 1) := by decide +kernel
set_option maxRecDepth 20000 in
theorem dX1_comeIn_65 : decode cX1_comeIn 65 = .ok (.iconst 5, 1) := by decide +kernel
set_option maxRecDepth 20000 in
theorem dX1_comeIn_66 : decode cX1_comeIn 66 = .ok (.bipush 9, 2) := by decide +kernel
set_option maxRecDepth 20000 in
theorem dX1_comeIn_68 : decode cX1_comeIn 68 = .ok (.iastore, 1) := by decide +kernel
set_option maxRecDepth 20000 in
theorem dX1_comeIn_69 : decode cX1_comeIn 69 = .ok (.return_, 1) := by decide +kernel
set_option maxRecDepth 20000 in
theorem dX2_init_0 : decode cX2_init 0 = .ok (.aload_n 0, 1) := by decide +kernel
set_option maxRecDepth 20000 in
theorem dX2_init_1 : decode cX2_init 1 = .ok (.invokespecial 3, 3) := by decide +kernel
set_option maxRecDepth 20000 in
theorem dX2_init_4 : decode cX2_init 4 = .ok (.aload_n 0, 1) := by decide +kernel
set_option maxRecDepth 20000 in
theorem dX2_init_5 : decode cX2_init 5 = .ok (.new 9, 3) := by decide +kernel
set_option maxRecDepth 20000 in
theorem dX2_init_8 : decode cX2_init 8 = .ok (.dup, 1) := by decide +kernel
set_option maxRecDepth 20000 in
theorem dX2_init_9 : decode cX2_init 9 = .ok (.getstatic 11, 3) := by decide +kernel
set_option maxRecDepth 20000 in
theorem dX2_init_12 : decode cX2_init 12 = .ok (.invokespecial 15, 3) := by decide +kernel
set_option maxRecDepth 20000 in
theorem dX2_init_15 : decode cX2_init 15 = .ok (.putfield 18, 3) := by decide +kernel
set_option maxRecDepth 20000 in
theorem dX2_init_18 : decode cX2_init 18 = .ok (.aload_n 0, 1) := by decide +kernel
set_option maxRecDepth 20000 in
theorem dX2_init_19 : decode cX2_init 19 = .ok (.new 9, 3) := by decide +kernel
set_option maxRecDepth 20000 in
theorem dX2_init_22 : decode cX2_init 22 = .ok (.dup, 1) := by decide +kernel
set_option maxRecDepth 20000 in
theorem dX2_init_23 : decode cX2_init 23 = .ok (.getstatic 24, 3) := by decide +kernel
set_option maxRecDepth 20000 in
theorem dX2_init_26 : decode cX2_init 26 = .ok (.invokespecial 15, 3) := by decide +kernel
set_option maxRecDepth 20000 in
theorem dX2_init_29 : decode cX2_init 29 = .ok (.putfield 27, 3) := by decide +kernel
set_option maxRecDepth 20000 in
theorem dX2_init_32 : decode cX2_init 32 = .ok (.aload_n 0, 1) := by decide +kernel
set_option maxRecDepth 20000 in
theorem dX2_init_33 : decode cX2_init 33 = .ok (.new 9, 3) := by decide +kernel
set_option maxRecDepth 20000 in
theorem dX2_init_36 : decode cX2_init 36 = .ok (.dup, 1) := by decide +kernel
set_option maxRecDepth 20000 in
theorem dX2_init_37 : decode cX2_init 37 = .ok (.getstatic 30, 3) := by decide +kernel
set_option maxRecDepth 20000 in
theorem dX2_init_40 : decode cX2_init 40 = .ok (.invokespecial 15, 3) := by decide +kernel
set_option maxRecDepth 20000 in
theorem dX2_init_43 : decode cX2_init 43 = .ok (.putfield 33, 3) := by decide +kernel
set_option maxRecDepth 20000 in
theorem dX2_init_46 : decode cX2_init 46 = .ok (.aload_n 0, 1) := by decide +kernel
set_option maxRecDepth 20000 in
theorem dX2_init_47 : decode cX2_init 47 = .ok (.iconst 5, 1) := by decide +kernel
set_option maxRecDepth 20000 in
theorem dX2_init_48 : decode cX2_init 48 = .ok (.newarray .int, 2) := by decide +kernel
set_option maxRecDepth 20000 in
theorem dX2_init_50 : decode cX2_init 50 = .ok (.putfield 36, 3) := by decide +kernel
set_option maxRecDepth 20000 in
theorem dX2_init_53 : decode cX2_init 53 = .ok (.return_, 1) := by decide +kernel
set_option maxRecDepth 20000 in
theorem dX2_textOf_0 : decode cX2_textOf 0 = .ok (.iload_n 1, 1) := by decide +kernel
set_option maxRecDepth 20000 in
theorem dX2_textOf_1 : decode cX2_textOf 1 = .ok (.lookupswitch 37 #[(0, 27), (1, 32)], 27) := by decide +kernel
set_option maxRecDepth 20000 in
theorem dX2_textOf_28 : decode cX2_textOf 28 = .ok (.aload_n 0, 1) := by decide +kernel
set_option maxRecDepth 20000 in
theorem dX2_textOf_29 : decode cX2_textOf 29 = .ok (.getfield 18, 3) := by decide +kernel
set_option maxRecDepth 20000 in
theorem dX2_textOf_32 : decode cX2_textOf 32 = .ok (.areturn, 1) := by decide +kernel
set_option maxRecDepth 20000 in
theorem dX2_textOf_33 : decode cX2_textOf 33 = .ok (.aload_n 0, 1) := by decide +kernel
set_option maxRecDepth 20000 in
theorem dX2_textOf_34 : decode cX2_textOf 34 = .ok (.getfield 27, 3) := by decide +kernel
set_option maxRecDepth 20000 in
theorem dX2_textOf_37 : decode cX2_textOf 37 = .ok (.areturn, 1) := by decide +kernel
set_option maxRecDepth 20000 in
theorem dX2_textOf_38 : decode cX2_textOf 38 = .ok (.aload_n 0, 1) := by decide +kernel
set_option maxRecDepth 20000 in
theorem dX2_textOf_39 : decode cX2_textOf 39 = .ok (.getfield 33, 3) := by decide +kernel
set_option maxRecDepth 20000 in
theorem dX2_textOf_42 : decode cX2_textOf 42 = .ok (.areturn, 1) := by decide +kernel
set_option maxRecDepth 20000 in
theorem dX2_copyFrom_0 : decode cX2_copyFrom 0 = .ok (.aload_n 0, 1) := by decide +kernel
set_option maxRecDepth 20000 in
theorem dX2_copyFrom_1 : decode cX2_copyFrom 1 = .ok (.getfield 18, 3) := by decide +kernel
set_option maxRecDepth 20000 in
theorem dX2_copyFrom_4 : decode cX2_copyFrom 4 = .ok (.aload_n 1, 1) := by decide +kernel
set_option maxRecDepth 20000 in
theorem dX2_copyFrom_5 : decode cX2_copyFrom 5 = .ok (.getfield 18, 3) := by decide +kernel
set_option maxRecDepth 20000 in
theorem dX2_copyFrom_8 : decode cX2_copyFrom 8 = .ok (.invokevirtual 39, 3) := by decide +kernel
set_option maxRecDepth 20000 in
theorem dX2_copyFrom_11 : decode cX2_copyFrom 11 = .ok (.aload_n 0, 1) := by decide +kernel
set_option maxRecDepth 20000 in
theorem dX2_copyFrom_12 : decode cX2_copyFrom 12 = .ok (.getfield 27, 3) := by decide +kernel
set_option maxRecDepth 20000 in
theorem dX2_copyFrom_15 : decode cX2_copyFrom 15 = .ok (.aload_n 1, 1) := by decide +kernel
set_option maxRecDepth 20000 in
theorem dX2_copyFrom_16 : decode cX2_copyFrom 16 = .ok (.getfield 27, 3) := by decide +kernel
set_option maxRecDepth 20000 in
theorem dX2_copyFrom_19 : decode cX2_copyFrom 19 = .ok (.invokevirtual 39, 3) := by decide +kernel
set_option maxRecDepth 20000 in
theorem dX2_copyFrom_22 : decode cX2_copyFrom 22 = .ok (.aload_n 0, 1) := by decide +kernel
set_option maxRecDepth 20000 in
theorem dX2_copyFrom_23 : decode cX2_copyFrom 23 = .ok (.getfield 33, 3) := by decide +kernel
set_option maxRecDepth 20000 in
theorem dX2_copyFrom_26 : decode cX2_copyFrom 26 = .ok (.aload_n 1, 1) := by decide +kernel
set_option maxRecDepth 20000 in
theorem dX2_copyFrom_27 : decode cX2_copyFrom 27 = .ok (.getfield 33, 3) := by decide +kernel
set_option maxRecDepth 20000 in
theorem dX2_copyFrom_30 : decode cX2_copyFrom 30 = .ok (.invokevirtual 39, 3) := by decide +kernel
set_option maxRecDepth 20000 in
theorem dX2_copyFrom_33 : decode cX2_copyFrom 33 = .ok (.return_, 1) := by decide +kernel
set_option maxRecDepth 20000 in
theorem dX2_enters_0 : decode cX2_enters 0 = .ok (.aload_n 0, 1) := by decide +kernel
set_option maxRecDepth 20000 in
theorem dX2_enters_1 : decode cX2_enters 1 = .ok (.getfield 36, 3) := by decide +kernel
set_option maxRecDepth 20000 in
theorem dX2_enters_4 : decode cX2_enters 4 = .ok (.iconst 0, 1) := by decide +kernel
set_option maxRecDepth 20000 in
theorem dX2_enters_5 : decode cX2_enters 5 = .ok (.iload_n 1, 1) := by decide +kernel
set_option maxRecDepth 20000 in
theorem dX2_enters_6 : decode cX2_enters 6 = .ok (.iastore, 1) := by decide +kernel
set_option maxRecDepth 20000 in
theorem dX2_enters_7 : decode cX2_enters 7 = .ok (.aload_n 0, 1) := by decide +kernel
set_option maxRecDepth 20000 in
theorem dX2_enters_8 : decode cX2_enters 8 = .ok (.getfield 36, 3) := by decide +kernel
set_option maxRecDepth 20000 in
theorem dX2_enters_11 : decode cX2_enters 11 = .ok (.iconst 1, 1) := by decide +kernel
set_option maxRecDepth 20000 in
theorem dX2_enters_12 : decode cX2_enters 12 = .ok (.iload_n 2, 1) := by decide +kernel
set_option maxRecDepth 20000 in
theorem dX2_enters_13 : decode cX2_enters 13 = .ok (.iastore, 1) := by decide +kernel
set_option maxRecDepth 20000 in
theorem dX2_enters_14 : decode cX2_enters 14 = .ok (.aload_n 0, 1) := by decide +kernel
set_option maxRecDepth 20000 in
theorem dX2_enters_15 : decode cX2_enters 15 = .ok (.getfield 36, 3) := by decide +kernel
set_option maxRecDepth 20000 in
theorem dX2_enters_18 : decode cX2_enters 18 = .ok (.iconst 2, 1) := by decide +kernel
set_option maxRecDepth 20000 in
theorem dX2_enters_19 : decode cX2_enters 19 = .ok (.iload_n 3, 1) := by decide +kernel
set_option maxRecDepth 20000 in
theorem dX2_enters_20 : decode cX2_enters 20 = .ok (.iastore, 1) := by decide +kernel
set_option maxRecDepth 20000 in
theorem dX2_enters_21 : decode cX2_enters 21 = .ok (.aload_n 0, 1) := by decide +kernel
set_option maxRecDepth 20000 in
theorem dX2_enters_22 : decode cX2_enters 22 = .ok (.getfield 36, 3) := by decide +kernel
set_option maxRecDepth 20000 in
theorem dX2_enters_25 : decode cX2_enters 25 = .ok (.iconst 3, 1) := by decide +kernel
set_option maxRecDepth 20000 in
theorem dX2_enters_26 : decode cX2_enters 26 = .ok (.iload 4, 2) := by decide +kernel
set_option maxRecDepth 20000 in
theorem dX2_enters_28 : decode cX2_enters 28 = .ok (.iastore, 1) := by decide +kernel
set_option maxRecDepth 20000 in
theorem dX2_enters_29 : decode cX2_enters 29 = .ok (.aload_n 0, 1) := by decide +kernel
set_option maxRecDepth 20000 in
theorem dX2_enters_30 : decode cX2_enters 30 = .ok (.getfield 36, 3) := by decide +kernel
set_option maxRecDepth 20000 in
theorem dX2_enters_33 : decode cX2_enters 33 = .ok (.iconst 4, 1) := by decide +kernel
set_option maxRecDepth 20000 in
theorem dX2_enters_34 : decode cX2_enters 34 = .ok (.iload 5, 2) := by decide +kernel
set_option maxRecDepth 20000 in
theorem dX2_enters_36 : decode cX2_enters 36 = .ok (.iastore, 1) := by decide +kernel
set_option maxRecDepth 20000 in
theorem dX2_enters_37 : decode cX2_enters 37 = .ok (.aload_n 0, 1) := by decide +kernel
set_option maxRecDepth 20000 in
theorem dX2_enters_38 : decode cX2_enters 38 = .ok (.getfield 18, 3) := by decide +kernel
set_option maxRecDepth 20000 in
theorem dX2_enters_41 : decode cX2_enters 41 = .ok (.aload_n 0, 1) := by decide +kernel
set_option maxRecDepth 20000 in
theorem dX2_enters_42 : decode cX2_enters 42 = .ok (.getfield 36, 3) := by decide +kernel
set_option maxRecDepth 20000 in
theorem dX2_enters_45 : decode cX2_enters 45 = .ok (.invokevirtual 43, 3) := by decide +kernel
set_option maxRecDepth 20000 in
theorem dX2_enters_48 : decode cX2_enters 48 = .ok (.ireturn, 1) := by decide +kernel
set_option maxRecDepth 20000 in
theorem dX2_kills_0 : decode cX2_kills 0 = .ok (.aload_n 0, 1) := by decide +kernel
set_option maxRecDepth 20000 in
theorem dX2_kills_1 : decode cX2_kills 1 = .ok (.getfield 36, 3) := by decide +kernel
set_option maxRecDepth 20000 in
theorem dX2_kills_4 : decode cX2_kills 4 = .ok (.iconst 0, 1) := by decide +kernel
set_option maxRecDepth 20000 in
theorem dX2_kills_5 : decode cX2_kills 5 = .ok (.iload_n 1, 1) := by decide +kernel
set_option maxRecDepth 20000 in
theorem dX2_kills_6 : decode cX2_kills 6 = .ok (.iastore, 1) := by decide +kernel
set_option maxRecDepth 20000 in
theorem dX2_kills_7 : decode cX2_kills 7 = .ok (.aload_n 0, 1) := by decide +kernel
set_option maxRecDepth 20000 in
theorem dX2_kills_8 : decode cX2_kills 8 = .ok (.getfield 36, 3) := by decide +kernel
set_option maxRecDepth 20000 in
theorem dX2_kills_11 : decode cX2_kills 11 = .ok (.iconst 1, 1) := by decide +kernel
set_option maxRecDepth 20000 in
theorem dX2_kills_12 : decode cX2_kills 12 = .ok (.iload_n 2, 1) := by decide +kernel
set_option maxRecDepth 20000 in
theorem dX2_kills_13 : decode cX2_kills 13 = .ok (.iastore, 1) := by decide +kernel
set_option maxRecDepth 20000 in
theorem dX2_kills_14 : decode cX2_kills 14 = .ok (.aload_n 0, 1) := by decide +kernel
set_option maxRecDepth 20000 in
theorem dX2_kills_15 : decode cX2_kills 15 = .ok (.getfield 36, 3) := by decide +kernel
set_option maxRecDepth 20000 in
theorem dX2_kills_18 : decode cX2_kills 18 = .ok (.iconst 2, 1) := by decide +kernel
set_option maxRecDepth 20000 in
theorem dX2_kills_19 : decode cX2_kills 19 = .ok (.iload_n 3, 1) := by decide +kernel
set_option maxRecDepth 20000 in
theorem dX2_kills_20 : decode cX2_kills 20 = .ok (.iastore, 1) := by decide +kernel
set_option maxRecDepth 20000 in
theorem dX2_kills_21 : decode cX2_kills 21 = .ok (.aload_n 0, 1) := by decide +kernel
set_option maxRecDepth 20000 in
theorem dX2_kills_22 : decode cX2_kills 22 = .ok (.getfield 27, 3) := by decide +kernel
set_option maxRecDepth 20000 in
theorem dX2_kills_25 : decode cX2_kills 25 = .ok (.aload_n 0, 1) := by decide +kernel
set_option maxRecDepth 20000 in
theorem dX2_kills_26 : decode cX2_kills 26 = .ok (.getfield 36, 3) := by decide +kernel
set_option maxRecDepth 20000 in
theorem dX2_kills_29 : decode cX2_kills 29 = .ok (.invokevirtual 43, 3) := by decide +kernel
set_option maxRecDepth 20000 in
theorem dX2_kills_32 : decode cX2_kills 32 = .ok (.iconst 0, 1) := by decide +kernel
set_option maxRecDepth 20000 in
theorem dX2_kills_33 : decode cX2_kills 33 = .ok (.iload_n 1, 1) := by decide +kernel
set_option maxRecDepth 20000 in
theorem dX2_kills_34 : decode cX2_kills 34 = .ok (.invokestatic 47, 3) := by decide +kernel
set_option maxRecDepth 20000 in
theorem dX2_kills_37 : decode cX2_kills 37 = .ok (.ireturn, 1) := by decide +kernel
set_option maxRecDepth 20000 in
theorem dX2_stays_0 : decode cX2_stays 0 = .ok (.aload_n 0, 1) := by decide +kernel
set_option maxRecDepth 20000 in
theorem dX2_stays_1 : decode cX2_stays 1 = .ok (.getfield 36, 3) := by decide +kernel
set_option maxRecDepth 20000 in
theorem dX2_stays_4 : decode cX2_stays 4 = .ok (.iconst 0, 1) := by decide +kernel
set_option maxRecDepth 20000 in
theorem dX2_stays_5 : decode cX2_stays 5 = .ok (.iload_n 1, 1) := by decide +kernel
set_option maxRecDepth 20000 in
theorem dX2_stays_6 : decode cX2_stays 6 = .ok (.iastore, 1) := by decide +kernel
set_option maxRecDepth 20000 in
theorem dX2_stays_7 : decode cX2_stays 7 = .ok (.aload_n 0, 1) := by decide +kernel
set_option maxRecDepth 20000 in
theorem dX2_stays_8 : decode cX2_stays 8 = .ok (.getfield 36, 3) := by decide +kernel
set_option maxRecDepth 20000 in
theorem dX2_stays_11 : decode cX2_stays 11 = .ok (.iconst 1, 1) := by decide +kernel
set_option maxRecDepth 20000 in
theorem dX2_stays_12 : decode cX2_stays 12 = .ok (.iload_n 2, 1) := by decide +kernel
set_option maxRecDepth 20000 in
theorem dX2_stays_13 : decode cX2_stays 13 = .ok (.iastore, 1) := by decide +kernel
set_option maxRecDepth 20000 in
theorem dX2_stays_14 : decode cX2_stays 14 = .ok (.aload_n 0, 1) := by decide +kernel
set_option maxRecDepth 20000 in
theorem dX2_stays_15 : decode cX2_stays 15 = .ok (.getfield 33, 3) := by decide +kernel
set_option maxRecDepth 20000 in
theorem dX2_stays_18 : decode cX2_stays 18 = .ok (.aload_n 0, 1) := by decide +kernel
set_option maxRecDepth 20000 in
theorem dX2_stays_19 : decode cX2_stays 19 = .ok (.getfield 36, 3) := by decide +kernel
set_option maxRecDepth 20000 in
theorem dX2_stays_22 : decode cX2_stays 22 = .ok (.invokevirtual 43, 3) := by decide +kernel
set_option maxRecDepth 20000 in
theorem dX2_stays_25 : decode cX2_stays 25 = .ok (.iconst 0, 1) := by decide +kernel
set_option maxRecDepth 20000 in
theorem dX2_stays_26 : decode cX2_stays 26 = .ok (.bipush 99, 2) := by decide +kernel
set_option maxRecDepth 20000 in
theorem dX2_stays_28 : decode cX2_stays 28 = .ok (.invokestatic 47, 3) := by decide +kernel
set_option maxRecDepth 20000 in
theorem dX2_stays_31 : decode cX2_stays 31 = .ok (.ireturn, 1) := by decide +kernel
set_option maxRecDepth 20000 in
theorem dX3_init_0 : decode cX3_init 0 = .ok (.aload_n 0, 1) := by decide +kernel
set_option maxRecDepth 20000 in
theorem dX3_init_1 : decode cX3_init 1 = .ok (.invokespecial 3, 3) := by decide +kernel
set_option maxRecDepth 20000 in
theorem dX3_init_4 : decode cX3_init 4 = .ok (.aload_n 0, 1) := by decide +kernel
set_option maxRecDepth 20000 in
theorem dX3_init_5 : decode cX3_init 5 = .ok (.new 9, 3) := by decide +kernel
set_option maxRecDepth 20000 in
theorem dX3_init_8 : decode cX3_init 8 = .ok (.dup, 1) := by decide +kernel
set_option maxRecDepth 20000 in
theorem dX3_init_9 : decode cX3_init 9 = .ok (.iconst 0, 1) := by decide +kernel
set_option maxRecDepth 20000 in
theorem dX3_init_10 : decode cX3_init 10 = .ok (.newarray .int, 2) := by decide +kernel
set_option maxRecDepth 20000 in
theorem dX3_init_12 : decode cX3_init 12 = .ok (.invokespecial 11, 3) := by decide +kernel
set_option maxRecDepth 20000 in
theorem dX3_init_15 : decode cX3_init 15 = .ok (.putfield 14, 3) := by decide +kernel
set_option maxRecDepth 20000 in
theorem dX3_init_18 : decode cX3_init 18 = .ok (.aload_n 0, 1) := by decide +kernel
set_option maxRecDepth 20000 in
theorem dX3_init_19 : decode cX3_init 19 = .ok (.iconst 0, 1) := by decide +kernel
set_option maxRecDepth 20000 in
theorem dX3_init_20 : decode cX3_init 20 = .ok (.newarray .byte, 2) := by decide +kernel
set_option maxRecDepth 20000 in
theorem dX3_init_22 : decode cX3_init 22 = .ok (.putfield 20, 3) := by decide +kernel
set_option maxRecDepth 20000 in
theorem dX3_init_25 : decode cX3_init 25 = .ok (.aload_n 0, 1) := by decide +kernel
set_option maxRecDepth 20000 in
theorem dX3_init_26 : decode cX3_init 26 = .ok (.iconst 0, 1) := by decide +kernel
set_option maxRecDepth 20000 in
theorem dX3_init_27 : decode cX3_init 27 = .ok (.putfield 24, 3) := by decide +kernel
set_option maxRecDepth 20000 in
theorem dX3_init_30 : decode cX3_init 30 = .ok (.aload_n 0, 1) := by decide +kernel
set_option maxRecDepth 20000 in
theorem dX3_init_31 : decode cX3_init 31 = .ok (.ldc 28, 2) := by decide +kernel
set_option maxRecDepth 20000 in
theorem dX3_init_33 : decode cX3_init 33 = .ok (.putfield 30, 3) := by decide +kernel
set_option maxRecDepth 20000 in
theorem dX3_init_36 : decode cX3_init 36 = .ok (.aload_n 0, 1) := by decide +kernel
set_option maxRecDepth 20000 in
theorem dX3_init_37 : decode cX3_init 37 = .ok (.iconst 0, 1) := by decide +kernel
set_option maxRecDepth 20000 in
theorem dX3_init_38 : decode cX3_init 38 = .ok (.putfield 34, 3) := by decide +kernel
set_option maxRecDepth 20000 in
theorem dX3_init_41 : decode cX3_init 41 = .ok (.aload_n 0, 1) := by decide +kernel
set_option maxRecDepth 20000 in
theorem dX3_init_42 : decode cX3_init 42 = .ok (.bipush 50, 2) := by decide +kernel
set_option maxRecDepth 20000 in
theorem dX3_init_44 : decode cX3_init 44 = .ok (.newarray .int, 2) := by decide +kernel
set_option maxRecDepth 20000 in
theorem dX3_init_46 : decode cX3_init 46 = .ok (.putfield 37, 3) := by decide +kernel
set_option maxRecDepth 20000 in
theorem dX3_init_49 : decode cX3_init 49 = .ok (.aload_n 0, 1) := by decide +kernel
set_option maxRecDepth 20000 in
theorem dX3_init_50 : decode cX3_init 50 = .ok (.iconst 0, 1) := by decide +kernel
set_option maxRecDepth 20000 in
theorem dX3_init_51 : decode cX3_init 51 = .ok (.putfield 41, 3) := by decide +kernel
set_option maxRecDepth 20000 in
theorem dX3_init_54 : decode cX3_init 54 = .ok (.aload_n 0, 1) := by decide +kernel
set_option maxRecDepth 20000 in
theorem dX3_init_55 : decode cX3_init 55 = .ok (.iconst 0, 1) := by decide +kernel
set_option maxRecDepth 20000 in
theorem dX3_init_56 : decode cX3_init 56 = .ok (.putfield 44, 3) := by decide +kernel
set_option maxRecDepth 20000 in
theorem dX3_init_59 : decode cX3_init 59 = .ok (.aload_n 0, 1) := by decide +kernel
set_option maxRecDepth 20000 in
theorem dX3_init_60 : decode cX3_init 60 = .ok (.iconst 0, 1) := by decide +kernel
set_option maxRecDepth 20000 in
theorem dX3_init_61 : decode cX3_init 61 = .ok (.putfield 47, 3) := by decide +kernel
set_option maxRecDepth 20000 in
theorem dX3_init_64 : decode cX3_init 64 = .ok (.aload_n 0, 1) := by decide +kernel
set_option maxRecDepth 20000 in
theorem dX3_init_65 : decode cX3_init 65 = .ok (.iconst 1, 1) := by decide +kernel
set_option maxRecDepth 20000 in
theorem dX3_init_66 : decode cX3_init 66 = .ok (.putfield 50, 3) := by decide +kernel
set_option maxRecDepth 20000 in
theorem dX3_init_69 : decode cX3_init 69 = .ok (.return_, 1) := by decide +kernel
set_option maxRecDepth 20000 in
theorem dX3_faultOf_0 : decode cX3_faultOf 0 = .ok (.aload_n 0, 1) := by decide +kernel
set_option maxRecDepth 20000 in
theorem dX3_faultOf_1 : decode cX3_faultOf 1 = .ok (.aload_n 1, 1) := by decide +kernel
set_option maxRecDepth 20000 in
theorem dX3_faultOf_2 : decode cX3_faultOf 2 = .ok (.putfield 20, 3) := by decide +kernel
set_option maxRecDepth 20000 in
theorem dX3_faultOf_5 : decode cX3_faultOf 5 = .ok (.aload_n 0, 1) := by decide +kernel
set_option maxRecDepth 20000 in
theorem dX3_faultOf_6 : decode cX3_faultOf 6 = .ok (.iload_n 2, 1) := by decide +kernel
set_option maxRecDepth 20000 in
theorem dX3_faultOf_7 : decode cX3_faultOf 7 = .ok (.aload_n 1, 1) := by decide +kernel
set_option maxRecDepth 20000 in
theorem dX3_faultOf_8 : decode cX3_faultOf 8 = .ok (.arraylength, 1) := by decide +kernel
set_option maxRecDepth 20000 in
theorem dX3_faultOf_9 : decode cX3_faultOf 9 = .ok (.invokestatic 54, 3) := by decide +kernel
set_option maxRecDepth 20000 in
theorem dX3_faultOf_12 : decode cX3_faultOf 12 = .ok (.putfield 24, 3) := by decide +kernel
set_option maxRecDepth 20000 in
theorem dX3_faultOf_15 : decode cX3_faultOf 15 = .ok (.aload_n 0, 1) := by decide +kernel
set_option maxRecDepth 20000 in
theorem dX3_faultOf_16 : decode cX3_faultOf 16 = .ok (.aload_n 3, 1) := by decide +kernel
set_option maxRecDepth 20000 in
theorem dX3_faultOf_17 : decode cX3_faultOf 17 = .ok (.putfield 30, 3) := by decide +kernel
set_option maxRecDepth 20000 in
theorem dX3_faultOf_20 : decode cX3_faultOf 20 = .ok (.aload_n 0, 1) := by decide +kernel
set_option maxRecDepth 20000 in
theorem dX3_faultOf_21 : decode cX3_faultOf 21 = .ok (.invokevirtual 60, 3) := by decide +kernel
set_option maxRecDepth 20000 in
theorem dX3_faultOf_24 : decode cX3_faultOf 24 = .ok (.iconst 0, 1) := by decide +kernel
set_option maxRecDepth 20000 in
theorem dX3_faultOf_25 : decode cX3_faultOf 25 = .ok (.istore 4, 2) := by decide +kernel
set_option maxRecDepth 20000 in
theorem dX3_faultOf_27 : decode cX3_faultOf 27 = .ok (.iload 4, 2) := by decide +kernel
set_option maxRecDepth 20000 in
theorem dX3_faultOf_29 : decode cX3_faultOf 29 = .ok (.aload_n 0, 1) := by decide +kernel
set_option maxRecDepth 20000 in
theorem dX3_faultOf_30 : decode cX3_faultOf 30 = .ok (.getfield 24, 3) := by decide +kernel
set_option maxRecDepth 20000 in
theorem dX3_faultOf_33 : decode cX3_faultOf 33 = .ok (.if_icmp .ge 61, 3) := by decide +kernel
set_option maxRecDepth 20000 in
theorem dX3_faultOf_36 : decode cX3_faultOf 36 = .ok (.aload_n 0, 1) := by decide +kernel
set_option maxRecDepth 20000 in
theorem dX3_faultOf_37 : decode cX3_faultOf 37 = .ok (.getfield 34, 3) := by decide +kernel
set_option maxRecDepth 20000 in
theorem dX3_faultOf_40 : decode cX3_faultOf 40 = .ok (.aload_n 0, 1) := by decide +kernel
set_option maxRecDepth 20000 in
theorem dX3_faultOf_41 : decode cX3_faultOf 41 = .ok (.getfield 24, 3) := by decide +kernel
set_option maxRecDepth 20000 in
theorem dX3_faultOf_44 : decode cX3_faultOf 44 = .ok (.if_icmp .ge 50, 3) := by decide +kernel
set_option maxRecDepth 20000 in
theorem dX3_faultOf_47 : decode cX3_faultOf 47 = .ok (.aload_n 0, 1) := by decide +kernel
set_option maxRecDepth 20000 in
theorem dX3_faultOf_48 : decode cX3_faultOf 48 = .ok (.getfield 50, 3) := by decide +kernel
set_option maxRecDepth 20000 in
theorem dX3_faultOf_51 : decode cX3_faultOf 51 = .ok (.ifCond .eq 19, 3) := by decide +kernel
set_option maxRecDepth 20000 in
theorem dX3_faultOf_54 : decode cX3_faultOf 54 = .ok (.aload_n 0, 1) := by decide +kernel
set_option maxRecDepth 20000 in
theorem dX3_faultOf_55 : decode cX3_faultOf 55 = .ok (.aload_n 1, 1) := by decide +kernel
set_option maxRecDepth 20000 in
theorem dX3_faultOf_56 : decode cX3_faultOf 56 = .ok (.aload_n 0, 1) := by decide +kernel
set_option maxRecDepth 20000 in
theorem dX3_faultOf_57 : decode cX3_faultOf 57 = .ok (.getfield 34, 3) := by decide +kernel
set_option maxRecDepth 20000 in
theorem dX3_faultOf_60 : decode cX3_faultOf 60 = .ok (.baload, 1) := by decide +kernel
set_option maxRecDepth 20000 in
theorem dX3_faultOf_61 : decode cX3_faultOf 61 = .ok (.invokevirtual 63, 3) := by decide +kernel
set_option maxRecDepth 20000 in
theorem dX3_faultOf_64 : decode cX3_faultOf 64 = .ok (.ifCond .eq 19, 3) := by decide +kernel
set_option maxRecDepth 20000 in
theorem dX3_faultOf_67 : decode cX3_faultOf 67 = .ok (.goto 21, 3) := by decide +kernel
set_option maxRecDepth 20000 in
theorem dX3_faultOf_70 : decode cX3_faultOf 70 = .ok (.aload_n 0, 1) := by decide +kernel
set_option maxRecDepth 20000 in
theorem dX3_faultOf_71 : decode cX3_faultOf 71 = .ok (.aload_n 1, 1) := by decide +kernel
set_option maxRecDepth 20000 in
theorem dX3_faultOf_72 : decode cX3_faultOf 72 = .ok (.aload_n 0, 1) := by decide +kernel
set_option maxRecDepth 20000 in
theorem dX3_faultOf_73 : decode cX3_faultOf 73 = .ok (.getfield 34, 3) := by decide +kernel
set_option maxRecDepth 20000 in
theorem dX3_faultOf_76 : decode cX3_faultOf 76 = .ok (.baload, 1) := by decide +kernel
set_option maxRecDepth 20000 in
theorem dX3_faultOf_77 : decode cX3_faultOf 77 = .ok (.invokevirtual 67, 3) := by decide +kernel
set_option maxRecDepth 20000 in
theorem dX3_faultOf_80 : decode cX3_faultOf 80 = .ok (.ifCond .ne 8, 3) := by decide +kernel
set_option maxRecDepth 20000 in
theorem dX3_faultOf_83 : decode cX3_faultOf 83 = .ok (.aload_n 0, 1) := by decide +kernel
set_option maxRecDepth 20000 in
theorem dX3_faultOf_84 : decode cX3_faultOf 84 = .ok (.getfield 34, 3) := by decide +kernel
set_option maxRecDepth 20000 in
theorem dX3_faultOf_87 : decode cX3_faultOf 87 = .ok (.ireturn, 1) := by decide +kernel
set_option maxRecDepth 20000 in
theorem dX3_faultOf_88 : decode cX3_faultOf 88 = .ok (.iinc 4 1, 3) := by decide +kernel
set_option maxRecDepth 20000 in
theorem dX3_faultOf_91 : decode cX3_faultOf 91 = .ok (.goto (-64), 3) := by decide +kernel
set_option maxRecDepth 20000 in
theorem dX3_faultOf_94 : decode cX3_faultOf 94 = .ok (.aload_n 0, 1) := by decide +kernel
set_option maxRecDepth 20000 in
theorem dX3_faultOf_95 : decode cX3_faultOf 95 = .ok (.getfield 50, 3) := by decide +kernel
set_option maxRecDepth 20000 in
theorem dX3_faultOf_98 : decode cX3_faultOf 98 = .ok (.ifCond .ne 10, 3) := by decide +kernel
set_option maxRecDepth 20000 in
theorem dX3_faultOf_101 : decode cX3_faultOf 101 = .ok (.aload_n 0, 1) := by decide +kernel
set_option maxRecDepth 20000 in
theorem dX3_faultOf_102 : decode cX3_faultOf 102 = .ok (.getfield 47, 3) := by decide +kernel
set_option maxRecDepth 20000 in
theorem dX3_faultOf_105 : decode cX3_faultOf 105 = .ok (.ifCond .le 8, 3) := by decide +kernel
set_option maxRecDepth 20000 in
theorem dX3_faultOf_108 : decode cX3_faultOf 108 = .ok (.aload_n 0, 1) := by decide +kernel
set_option maxRecDepth 20000 in
theorem dX3_faultOf_109 : decode cX3_faultOf 109 = .ok (.getfield 24, 3) := by decide +kernel
set_option maxRecDepth 20000 in
theorem dX3_faultOf_112 : decode cX3_faultOf 112 = .ok (.ireturn, 1) := by decide +kernel
set_option maxRecDepth 20000 in
theorem dX3_faultOf_113 : decode cX3_faultOf 113 = .ok (.aload_n 0, 1) := by decide +kernel
set_option maxRecDepth 20000 in
theorem dX3_faultOf_114 : decode cX3_faultOf 114 = .ok (.iconst 1, 1) := by decide +kernel
set_option maxRecDepth 20000 in
theorem dX3_faultOf_115 : decode cX3_faultOf 115 = .ok (.invokevirtual 70, 3) := by decide +kernel
set_option maxRecDepth 20000 in
theorem dX3_faultOf_118 : decode cX3_faultOf 118 = .ok (.iconst (-1), 1) := by decide +kernel
set_option maxRecDepth 20000 in
theorem dX3_faultOf_119 : decode cX3_faultOf 119 = .ok (.ireturn, 1) := by decide +kernel
set_option maxRecDepth 20000 in
theorem dX3_begin_0 : decode cX3_begin 0 = .ok (.aload_n 0, 1) := by decide +kernel
set_option maxRecDepth 20000 in
theorem dX3_begin_1 : decode cX3_begin 1 = .ok (.getfield 14, 3) := by decide +kernel
set_option maxRecDepth 20000 in
theorem dX3_begin_4 : decode cX3_begin 4 = .ok (.invokevirtual 74, 3) := by decide +kernel
set_option maxRecDepth 20000 in
theorem dX3_begin_7 : decode cX3_begin 7 = .ok (.aload_n 0, 1) := by decide +kernel
set_option maxRecDepth 20000 in
theorem dX3_begin_8 : decode cX3_begin 8 = .ok (.iconst 0, 1) := by decide +kernel
set_option maxRecDepth 20000 in
theorem dX3_begin_9 : decode cX3_begin 9 = .ok (.putfield 34, 3) := by decide +kernel
set_option maxRecDepth 20000 in
theorem dX3_begin_12 : decode cX3_begin 12 = .ok (.aload_n 0, 1) := by decide +kernel
set_option maxRecDepth 20000 in
theorem dX3_begin_13 : decode cX3_begin 13 = .ok (.iconst 0, 1) := by decide +kernel
set_option maxRecDepth 20000 in
theorem dX3_begin_14 : decode cX3_begin 14 = .ok (.putfield 41, 3) := by decide +kernel
set_option maxRecDepth 20000 in
theorem dX3_begin_17 : decode cX3_begin 17 = .ok (.aload_n 0, 1) := by decide +kernel
set_option maxRecDepth 20000 in
theorem dX3_begin_18 : decode cX3_begin 18 = .ok (.iconst 0, 1) := by decide +kernel
set_option maxRecDepth 20000 in
theorem dX3_begin_19 : decode cX3_begin 19 = .ok (.putfield 44, 3) := by decide +kernel
set_option maxRecDepth 20000 in
theorem dX3_begin_22 : decode cX3_begin 22 = .ok (.aload_n 0, 1) := by decide +kernel
set_option maxRecDepth 20000 in
theorem dX3_begin_23 : decode cX3_begin 23 = .ok (.iconst 0, 1) := by decide +kernel
set_option maxRecDepth 20000 in
theorem dX3_begin_24 : decode cX3_begin 24 = .ok (.putfield 47, 3) := by decide +kernel
set_option maxRecDepth 20000 in
theorem dX3_begin_27 : decode cX3_begin 27 = .ok (.aload_n 0, 1) := by decide +kernel
set_option maxRecDepth 20000 in
theorem dX3_begin_28 : decode cX3_begin 28 = .ok (.iconst 1, 1) := by decide +kernel
set_option maxRecDepth 20000 in
theorem dX3_begin_29 : decode cX3_begin 29 = .ok (.putfield 50, 3) := by decide +kernel
set_option maxRecDepth 20000 in
theorem dX3_begin_32 : decode cX3_begin 32 = .ok (.return_, 1) := by decide +kernel
set_option maxRecDepth 20000 in
theorem dX3_takeOperand_0 : decode cX3_takeOperand 0 = .ok (.iload_n 1, 1) := by decide +kernel
set_option maxRecDepth 20000 in
theorem dX3_takeOperand_1 : decode cX3_takeOperand 1 = .ok (.bipush 33, 2) := by decide +kernel
set_option maxRecDepth 20000 in
theorem dX3_takeOperand_3 : decode cX3_takeOperand 3 = .ok (.if_icmp .eq 9, 3) := by decide +kernel
set_option maxRecDepth 20000 in
theorem dX3_takeOperand_6 : decode cX3_takeOperand 6 = .ok (.iload_n 1, 1) := by decide +kernel
set_option maxRecDepth 20000 in
theorem dX3_takeOperand_7 : decode cX3_takeOperand 7 = .ok (.bipush 40, 2) := by decide +kernel
set_option maxRecDepth 20000 in
theorem dX3_takeOperand_9 : decode cX3_takeOperand 9 = .ok (.if_icmp .ne 9, 3) := by decide +kernel
set_option maxRecDepth 20000 in
theorem dX3_takeOperand_12 : decode cX3_takeOperand 12 = .ok (.aload_n 0, 1) := by decide +kernel
set_option maxRecDepth 20000 in
theorem dX3_takeOperand_13 : decode cX3_takeOperand 13 = .ok (.iload_n 1, 1) := by decide +kernel
set_option maxRecDepth 20000 in
theorem dX3_takeOperand_14 : decode cX3_takeOperand 14 = .ok (.invokevirtual 77, 3) := by decide +kernel
set_option maxRecDepth 20000 in
theorem dX3_takeOperand_17 : decode cX3_takeOperand 17 = .ok (.ireturn, 1) := by decide +kernel
set_option maxRecDepth 20000 in
theorem dX3_takeOperand_18 : decode cX3_takeOperand 18 = .ok (.iload_n 1, 1) := by decide +kernel
set_option maxRecDepth 20000 in
theorem dX3_takeOperand_19 : decode cX3_takeOperand 19 = .ok (.ifCond .le 15, 3) := by decide +kernel
set_option maxRecDepth 20000 in
theorem dX3_takeOperand_22 : decode cX3_takeOperand 22 = .ok (.aload_n 0, 1) := by decide +kernel
set_option maxRecDepth 20000 in
theorem dX3_takeOperand_23 : decode cX3_takeOperand 23 = .ok (.getfield 30, 3) := by decide +kernel
set_option maxRecDepth 20000 in
theorem dX3_takeOperand_26 : decode cX3_takeOperand 26 = .ok (.iload_n 1, 1) := by decide +kernel
set_option maxRecDepth 20000 in
theorem dX3_takeOperand_27 : decode cX3_takeOperand 27 = .ok (.i2c, 1) := by decide +kernel
set_option maxRecDepth 20000 in
theorem dX3_takeOperand_28 : decode cX3_takeOperand 28 = .ok (.invokevirtual 80, 3) := by decide +kernel
set_option maxRecDepth 20000 in
theorem dX3_takeOperand_31 : decode cX3_takeOperand 31 = .ok (.goto 4, 3) := by decide +kernel
set_option maxRecDepth 20000 in
theorem dX3_takeOperand_34 : decode cX3_takeOperand 34 = .ok (.iconst (-1), 1) := by decide +kernel
set_option maxRecDepth 20000 in
theorem dX3_takeOperand_35 : decode cX3_takeOperand 35 = .ok (.istore_n 2, 1) := by decide +kernel
set_option maxRecDepth 20000 in
theorem dX3_takeOperand_36 : decode cX3_takeOperand 36 = .ok (.iload_n 2, 1) := by decide +kernel
set_option maxRecDepth 20000 in
theorem dX3_takeOperand_37 : decode cX3_takeOperand 37 = .ok (.ifCond .lt 26, 3) := by decide +kernel
set_option maxRecDepth 20000 in
theorem dX3_takeOperand_40 : decode cX3_takeOperand 40 = .ok (.aload_n 0, 1) := by decide +kernel
set_option maxRecDepth 20000 in
theorem dX3_takeOperand_41 : decode cX3_takeOperand 41 = .ok (.getfield 14, 3) := by decide +kernel
set_option maxRecDepth 20000 in
theorem dX3_takeOperand_44 : decode cX3_takeOperand 44 = .ok (.iconst (-1), 1) := by decide +kernel
set_option maxRecDepth 20000 in
theorem dX3_takeOperand_45 : decode cX3_takeOperand 45 = .ok (.iload_n 2, 1) := by decide +kernel
set_option maxRecDepth 20000 in
theorem dX3_takeOperand_46 : decode cX3_takeOperand 46 = .ok (.isub, 1) := by decide +kernel
set_option maxRecDepth 20000 in
theorem dX3_takeOperand_47 : decode cX3_takeOperand 47 = .ok (.invokevirtual 86, 3) := by decide +kernel
set_option maxRecDepth 20000 in
theorem dX3_takeOperand_50 : decode cX3_takeOperand 50 = .ok (.aload_n 0, 1) := by decide +kernel
set_option maxRecDepth 20000 in
theorem dX3_takeOperand_51 : decode cX3_takeOperand 51 = .ok (.dup, 1) := by decide +kernel
set_option maxRecDepth 20000 in
theorem dX3_takeOperand_52 : decode cX3_takeOperand 52 = .ok (.getfield 34, 3) := by decide +kernel
set_option maxRecDepth 20000 in
theorem dX3_takeOperand_55 : decode cX3_takeOperand 55 = .ok (.iconst 1, 1) := by decide +kernel
set_option maxRecDepth 20000 in
theorem dX3_takeOperand_56 : decode cX3_takeOperand 56 = .ok (.iadd, 1) := by decide +kernel
set_option maxRecDepth 20000 in
theorem dX3_takeOperand_57 : decode cX3_takeOperand 57 = .ok (.putfield 34, 3) := by decide +kernel
set_option maxRecDepth 20000 in
theorem dX3_takeOperand_60 : decode cX3_takeOperand 60 = .ok (.goto 19, 3) := by decide +kernel
set_option maxRecDepth 20000 in
theorem dX3_takeOperand_63 : decode cX3_takeOperand 63 = .ok (.iload_n 1, 1) := by decide +kernel
set_option maxRecDepth 20000 in
theorem dX3_takeOperand_64 : decode cX3_takeOperand 64 = .ok (.invokestatic 89, 3) := by decide +kernel
set_option maxRecDepth 20000 in
theorem dX3_takeOperand_67 : decode cX3_takeOperand 67 = .ok (.ifCond .eq 10, 3) := by decide +kernel
set_option maxRecDepth 20000 in
theorem dX3_takeOperand_70 : decode cX3_takeOperand 70 = .ok (.aload_n 0, 1) := by decide +kernel
set_option maxRecDepth 20000 in
theorem dX3_takeOperand_71 : decode cX3_takeOperand 71 = .ok (.invokevirtual 92, 3) := by decide +kernel
set_option maxRecDepth 20000 in
theorem dX3_takeOperand_74 : decode cX3_takeOperand 74 = .ok (.goto 5, 3) := by decide +kernel
set_option maxRecDepth 20000 in
theorem dX3_takeOperand_77 : decode cX3_takeOperand 77 = .ok (.iconst 0, 1) := by decide +kernel
set_option maxRecDepth 20000 in
theorem dX3_takeOperand_78 : decode cX3_takeOperand 78 = .ok (.ireturn, 1) := by decide +kernel
set_option maxRecDepth 20000 in
theorem dX3_takeOperand_79 : decode cX3_takeOperand 79 = .ok (.aload_n 0, 1) := by decide +kernel
set_option maxRecDepth 20000 in
theorem dX3_takeOperand_80 : decode cX3_takeOperand 80 = .ok (.invokevirtual 95, 3) := by decide +kernel
set_option maxRecDepth 20000 in
theorem dX3_takeOperand_83 : decode cX3_takeOperand 83 = .ok (.iconst 1, 1) := by decide +kernel
set_option maxRecDepth 20000 in
theorem dX3_takeOperand_84 : decode cX3_takeOperand 84 = .ok (.ireturn, 1) := by decide +kernel
set_option maxRecDepth 20000 in
theorem dX3_takeOpening_0 : decode cX3_takeOpening 0 = .ok (.aload_n 0, 1) := by decide +kernel
set_option maxRecDepth 20000 in
theorem dX3_takeOpening_1 : decode cX3_takeOpening 1 = .ok (.getfield 44, 3) := by decide +kernel
set_option maxRecDepth 20000 in
theorem dX3_takeOpening_4 : decode cX3_takeOpening 4 = .ok (.iconst 5, 1) := by decide +kernel
set_option maxRecDepth 20000 in
theorem dX3_takeOpening_5 : decode cX3_takeOpening 5 = .ok (.if_icmp .lt 5, 3) := by decide +kernel
set_option maxRecDepth 20000 in
theorem dX3_takeOpening_8 : decode cX3_takeOpening 8 = .ok (.iconst 0, 1) := by decide +kernel
set_option maxRecDepth 20000 in
theorem dX3_takeOpening_9 : decode cX3_takeOpening 9 = .ok (.ireturn, 1) := by decide +kernel
set_option maxRecDepth 20000 in
theorem dX3_takeOpening_10 : decode cX3_takeOpening 10 = .ok (.aload_n 0, 1) := by decide +kernel
set_option maxRecDepth 20000 in
theorem dX3_takeOpening_11 : decode cX3_takeOpening 11 = .ok (.dup, 1) := by decide +kernel
set_option maxRecDepth 20000 in
theorem dX3_takeOpening_12 : decode cX3_takeOpening 12 = .ok (.getfield 44, 3) := by decide +kernel
set_option maxRecDepth 20000 in
theorem dX3_takeOpening_15 : decode cX3_takeOpening 15 = .ok (.iconst 1, 1) := by decide +kernel
set_option maxRecDepth 20000 in
theorem dX3_takeOpening_16 : decode cX3_takeOpening 16 = .ok (.iadd, 1) := by decide +kernel
set_option maxRecDepth 20000 in
theorem dX3_takeOpening_17 : decode cX3_takeOpening 17 = .ok (.putfield 44, 3) := by decide +kernel
set_option maxRecDepth 20000 in
theorem dX3_takeOpening_20 : decode cX3_takeOpening 20 = .ok (.aload_n 0, 1) := by decide +kernel
set_option maxRecDepth 20000 in
theorem dX3_takeOpening_21 : decode cX3_takeOpening 21 = .ok (.dup, 1) := by decide +kernel
set_option maxRecDepth 20000 in
theorem dX3_takeOpening_22 : decode cX3_takeOpening 22 = .ok (.getfield 47, 3) := by decide +kernel
set_option maxRecDepth 20000 in
theorem dX3_takeOpening_25 : decode cX3_takeOpening 25 = .ok (.iload_n 1, 1) := by decide +kernel
set_option maxRecDepth 20000 in
theorem dX3_takeOpening_26 : decode cX3_takeOpening 26 = .ok (.bipush 40, 2) := by decide +kernel
set_option maxRecDepth 20000 in
theorem dX3_takeOpening_28 : decode cX3_takeOpening 28 = .ok (.if_icmp .ne 7, 3) := by decide +kernel
set_option maxRecDepth 20000 in
theorem dX3_takeOpening_31 : decode cX3_takeOpening 31 = .ok (.iconst 1, 1) := by decide +kernel
set_option maxRecDepth 20000 in
theorem dX3_takeOpening_32 : decode cX3_takeOpening 32 = .ok (.goto 4, 3) := by decide +kernel
set_option maxRecDepth 20000 in
theorem dX3_takeOpening_35 : decode cX3_takeOpening 35 = .ok (.iconst 0, 1) := by decide +kernel
set_option maxRecDepth 20000 in
theorem dX3_takeOpening_36 : decode cX3_takeOpening 36 = .ok (.iadd, 1) := by decide +kernel
set_option maxRecDepth 20000 in
theorem dX3_takeOpening_37 : decode cX3_takeOpening 37 = .ok (.putfield 47, 3) := by decide +kernel
set_option maxRecDepth 20000 in
theorem dX3_takeOpening_40 : decode cX3_takeOpening 40 = .ok (.aload_n 0, 1) := by decide +kernel
set_option maxRecDepth 20000 in
theorem dX3_takeOpening_41 : decode cX3_takeOpening 41 = .ok (.iload_n 1, 1) := by decide +kernel
set_option maxRecDepth 20000 in
theorem dX3_takeOpening_42 : decode cX3_takeOpening 42 = .ok (.invokevirtual 98, 3) := by decide +kernel
set_option maxRecDepth 20000 in
theorem dX3_takeOpening_45 : decode cX3_takeOpening 45 = .ok (.aload_n 0, 1) := by decide +kernel
set_option maxRecDepth 20000 in
theorem dX3_takeOpening_46 : decode cX3_takeOpening 46 = .ok (.dup, 1) := by decide +kernel
set_option maxRecDepth 20000 in
theorem dX3_takeOpening_47 : decode cX3_takeOpening 47 = .ok (.getfield 34, 3) := by decide +kernel
set_option maxRecDepth 20000 in
theorem dX3_takeOpening_50 : decode cX3_takeOpening 50 = .ok (.iconst 1, 1) := by decide +kernel
set_option maxRecDepth 20000 in
theorem dX3_takeOpening_51 : decode cX3_takeOpening 51 = .ok (.iadd, 1) := by decide +kernel
set_option maxRecDepth 20000 in
theorem dX3_takeOpening_52 : decode cX3_takeOpening 52 = .ok (.putfield 34, 3) := by decide +kernel
set_option maxRecDepth 20000 in
theorem dX3_takeOpening_55 : decode cX3_takeOpening 55 = .ok (.iconst 1, 1) := by decide +kernel
set_option maxRecDepth 20000 in
theorem dX3_takeOpening_56 : decode cX3_takeOpening 56 = .ok (.ireturn, 1) := by decide +kernel
set_option maxRecDepth 20000 in
theorem dX3_takeNumber_0 : decode cX3_takeNumber 0 = .ok (.iconst 0, 1) := by decide +kernel
set_option maxRecDepth 20000 in
theorem dX3_takeNumber_1 : decode cX3_takeNumber 1 = .ok (.istore_n 1, 1) := by decide +kernel
set_option maxRecDepth 20000 in
theorem dX3_takeNumber_2 : decode cX3_takeNumber 2 = .ok (.aload_n 0, 1) := by decide +kernel
set_option maxRecDepth 20000 in
theorem dX3_takeNumber_3 : decode cX3_takeNumber 3 = .ok (.getfield 24, 3) := by decide +kernel
set_option maxRecDepth 20000 in
theorem dX3_takeNumber_6 : decode cX3_takeNumber 6 = .ok (.aload_n 0, 1) := by decide +kernel
set_option maxRecDepth 20000 in
theorem dX3_takeNumber_7 : decode cX3_takeNumber 7 = .ok (.getfield 34, 3) := by decide +kernel
set_option maxRecDepth 20000 in
theorem dX3_takeNumber_10 : decode cX3_takeNumber 10 = .ok (.iconst 4, 1) := by decide +kernel
set_option maxRecDepth 20000 in
theorem dX3_takeNumber_11 : decode cX3_takeNumber 11 = .ok (.iadd, 1) := by decide +kernel
set_option maxRecDepth 20000 in
theorem dX3_takeNumber_12 : decode cX3_takeNumber 12 = .ok (.invokestatic 54, 3) := by decide +kernel
set_option maxRecDepth 20000 in
theorem dX3_takeNumber_15 : decode cX3_takeNumber 15 = .ok (.istore_n 2, 1) := by decide +kernel
set_option maxRecDepth 20000 in
theorem dX3_takeNumber_16 : decode cX3_takeNumber 16 = .ok (.aload_n 0, 1) := by decide +kernel
set_option maxRecDepth 20000 in
theorem dX3_takeNumber_17 : decode cX3_takeNumber 17 = .ok (.getfield 34, 3) := by decide +kernel
set_option maxRecDepth 20000 in
theorem dX3_takeNumber_20 : decode cX3_takeNumber 20 = .ok (.iload_n 2, 1) := by decide +kernel
set_option maxRecDepth 20000 in
theorem dX3_takeNumber_21 : decode cX3_takeNumber 21 = .ok (.if_icmp .ge 49, 3) := by decide +kernel
set_option maxRecDepth 20000 in
theorem dX3_takeNumber_24 : decode cX3_takeNumber 24 = .ok (.aload_n 0, 1) := by decide +kernel
set_option maxRecDepth 20000 in
theorem dX3_takeNumber_25 : decode cX3_takeNumber 25 = .ok (.getfield 20, 3) := by decide +kernel
set_option maxRecDepth 20000 in
theorem dX3_takeNumber_28 : decode cX3_takeNumber 28 = .ok (.aload_n 0, 1) := by decide +kernel
set_option maxRecDepth 20000 in
theorem dX3_takeNumber_29 : decode cX3_takeNumber 29 = .ok (.getfield 34, 3) := by decide +kernel
set_option maxRecDepth 20000 in
theorem dX3_takeNumber_32 : decode cX3_takeNumber 32 = .ok (.baload, 1) := by decide +kernel
set_option maxRecDepth 20000 in
theorem dX3_takeNumber_33 : decode cX3_takeNumber 33 = .ok (.invokestatic 89, 3) := by decide +kernel
set_option maxRecDepth 20000 in
theorem dX3_takeNumber_36 : decode cX3_takeNumber 36 = .ok (.ifCond .eq 34, 3) := by decide +kernel
set_option maxRecDepth 20000 in
theorem dX3_takeNumber_39 : decode cX3_takeNumber 39 = .ok (.iload_n 1, 1) := by decide +kernel
set_option maxRecDepth 20000 in
theorem dX3_takeNumber_40 : decode cX3_takeNumber 40 = .ok (.bipush 10, 2) := by decide +kernel
set_option maxRecDepth 20000 in
theorem dX3_takeNumber_42 : decode cX3_takeNumber 42 = .ok (.imul, 1) := by decide +kernel
set_option maxRecDepth 20000 in
theorem dX3_takeNumber_43 : decode cX3_takeNumber 43 = .ok (.aload_n 0, 1) := by decide +kernel
set_option maxRecDepth 20000 in
theorem dX3_takeNumber_44 : decode cX3_takeNumber 44 = .ok (.getfield 20, 3) := by decide +kernel
set_option maxRecDepth 20000 in
theorem dX3_takeNumber_47 : decode cX3_takeNumber 47 = .ok (.aload_n 0, 1) := by decide +kernel
set_option maxRecDepth 20000 in
theorem dX3_takeNumber_48 : decode cX3_takeNumber 48 = .ok (.getfield 34, 3) := by decide +kernel
set_option maxRecDepth 20000 in
theorem dX3_takeNumber_51 : decode cX3_takeNumber 51 = .ok (.baload, 1) := by decide +kernel
set_option maxRecDepth 20000 in
theorem dX3_takeNumber_52 : decode cX3_takeNumber 52 = .ok (.iadd, 1) := by decide +kernel
set_option maxRecDepth 20000 in
theorem dX3_takeNumber_53 : decode cX3_takeNumber 53 = .ok (.bipush 48, 2) := by decide +kernel
set_option maxRecDepth 20000 in
theorem dX3_takeNumber_55 : decode cX3_takeNumber 55 = .ok (.isub, 1) := by decide +kernel
set_option maxRecDepth 20000 in
theorem dX3_takeNumber_56 : decode cX3_takeNumber 56 = .ok (.istore_n 1, 1) := by decide +kernel
set_option maxRecDepth 20000 in
theorem dX3_takeNumber_57 : decode cX3_takeNumber 57 = .ok (.aload_n 0, 1) := by decide +kernel
set_option maxRecDepth 20000 in
theorem dX3_takeNumber_58 : decode cX3_takeNumber 58 = .ok (.dup, 1) := by decide +kernel
set_option maxRecDepth 20000 in
theorem dX3_takeNumber_59 : decode cX3_takeNumber 59 = .ok (.getfield 34, 3) := by decide +kernel
set_option maxRecDepth 20000 in
theorem dX3_takeNumber_62 : decode cX3_takeNumber 62 = .ok (.iconst 1, 1) := by decide +kernel
set_option maxRecDepth 20000 in
theorem dX3_takeNumber_63 : decode cX3_takeNumber 63 = .ok (.iadd, 1) := by decide +kernel
set_option maxRecDepth 20000 in
theorem dX3_takeNumber_64 : decode cX3_takeNumber 64 = .ok (.putfield 34, 3) := by decide +kernel
set_option maxRecDepth 20000 in
theorem dX3_takeNumber_67 : decode cX3_takeNumber 67 = .ok (.goto (-51), 3) := by decide +kernel
set_option maxRecDepth 20000 in
theorem dX3_takeNumber_70 : decode cX3_takeNumber 70 = .ok (.aload_n 0, 1) := by decide +kernel
set_option maxRecDepth 20000 in
theorem dX3_takeNumber_71 : decode cX3_takeNumber 71 = .ok (.getfield 14, 3) := by decide +kernel
set_option maxRecDepth 20000 in
theorem dX3_takeNumber_74 : decode cX3_takeNumber 74 = .ok (.iload_n 1, 1) := by decide +kernel
set_option maxRecDepth 20000 in
theorem dX3_takeNumber_75 : decode cX3_takeNumber 75 = .ok (.invokevirtual 86, 3) := by decide +kernel
set_option maxRecDepth 20000 in
theorem dX3_takeNumber_78 : decode cX3_takeNumber 78 = .ok (.return_, 1) := by decide +kernel
set_option maxRecDepth 20000 in
theorem dX3_endOperand_0 : decode cX3_endOperand 0 = .ok (.aload_n 0, 1) := by decide +kernel
set_option maxRecDepth 20000 in
theorem dX3_endOperand_1 : decode cX3_endOperand 1 = .ok (.getfield 41, 3) := by decide +kernel
set_option maxRecDepth 20000 in
theorem dX3_endOperand_4 : decode cX3_endOperand 4 = .ok (.ifCond .le 51, 3) := by decide +kernel
set_option maxRecDepth 20000 in
theorem dX3_endOperand_7 : decode cX3_endOperand 7 = .ok (.aload_n 0, 1) := by decide +kernel
set_option maxRecDepth 20000 in
theorem dX3_endOperand_8 : decode cX3_endOperand 8 = .ok (.getfield 37, 3) := by decide +kernel
set_option maxRecDepth 20000 in
theorem dX3_endOperand_11 : decode cX3_endOperand 11 = .ok (.aload_n 0, 1) := by decide +kernel
set_option maxRecDepth 20000 in
theorem dX3_endOperand_12 : decode cX3_endOperand 12 = .ok (.getfield 41, 3) := by decide +kernel
set_option maxRecDepth 20000 in
theorem dX3_endOperand_15 : decode cX3_endOperand 15 = .ok (.iconst 1, 1) := by decide +kernel
set_option maxRecDepth 20000 in
theorem dX3_endOperand_16 : decode cX3_endOperand 16 = .ok (.isub, 1) := by decide +kernel
set_option maxRecDepth 20000 in
theorem dX3_endOperand_17 : decode cX3_endOperand 17 = .ok (.iaload, 1) := by decide +kernel
set_option maxRecDepth 20000 in
theorem dX3_endOperand_18 : decode cX3_endOperand 18 = .ok (.bipush 33, 2) := by decide +kernel
set_option maxRecDepth 20000 in
theorem dX3_endOperand_20 : decode cX3_endOperand 20 = .ok (.if_icmp .ne 35, 3) := by decide +kernel
set_option maxRecDepth 20000 in
theorem dX3_endOperand_23 : decode cX3_endOperand 23 = .ok (.aload_n 0, 1) := by decide +kernel
set_option maxRecDepth 20000 in
theorem dX3_endOperand_24 : decode cX3_endOperand 24 = .ok (.dup, 1) := by decide +kernel
set_option maxRecDepth 20000 in
theorem dX3_endOperand_25 : decode cX3_endOperand 25 = .ok (.getfield 41, 3) := by decide +kernel
set_option maxRecDepth 20000 in
theorem dX3_endOperand_28 : decode cX3_endOperand 28 = .ok (.iconst 1, 1) := by decide +kernel
set_option maxRecDepth 20000 in
theorem dX3_endOperand_29 : decode cX3_endOperand 29 = .ok (.isub, 1) := by decide +kernel
set_option maxRecDepth 20000 in
theorem dX3_endOperand_30 : decode cX3_endOperand 30 = .ok (.putfield 41, 3) := by decide +kernel
set_option maxRecDepth 20000 in
theorem dX3_endOperand_33 : decode cX3_endOperand 33 = .ok (.aload_n 0, 1) := by decide +kernel
set_option maxRecDepth 20000 in
theorem dX3_endOperand_34 : decode cX3_endOperand 34 = .ok (.dup, 1) := by decide +kernel
set_option maxRecDepth 20000 in
theorem dX3_endOperand_35 : decode cX3_endOperand 35 = .ok (.getfield 44, 3) := by decide +kernel
set_option maxRecDepth 20000 in
theorem dX3_endOperand_38 : decode cX3_endOperand 38 = .ok (.iconst 1, 1) := by decide +kernel
set_option maxRecDepth 20000 in
theorem dX3_endOperand_39 : decode cX3_endOperand 39 = .ok (.isub, 1) := by decide +kernel
set_option maxRecDepth 20000 in
theorem dX3_endOperand_40 : decode cX3_endOperand 40 = .ok (.putfield 44, 3) := by decide +kernel
set_option maxRecDepth 20000 in
theorem dX3_endOperand_43 : decode cX3_endOperand 43 = .ok (.aload_n 0, 1) := by decide +kernel
set_option maxRecDepth 20000 in
theorem dX3_endOperand_44 : decode cX3_endOperand 44 = .ok (.getfield 14, 3) := by decide +kernel
set_option maxRecDepth 20000 in
theorem dX3_endOperand_47 : decode cX3_endOperand 47 = .ok (.bipush (-33), 2) := by decide +kernel
set_option maxRecDepth 20000 in
theorem dX3_endOperand_49 : decode cX3_endOperand 49 = .ok (.invokevirtual 86, 3) := by decide +kernel
set_option maxRecDepth 20000 in
theorem dX3_endOperand_52 : decode cX3_endOperand 52 = .ok (.goto (-52), 3) := by decide +kernel
set_option maxRecDepth 20000 in
theorem dX3_endOperand_55 : decode cX3_endOperand 55 = .ok (.aload_n 0, 1) := by decide +kernel
set_option maxRecDepth 20000 in
theorem dX3_endOperand_56 : decode cX3_endOperand 56 = .ok (.iconst 0, 1) := by decide +kernel
set_option maxRecDepth 20000 in
theorem dX3_endOperand_57 : decode cX3_endOperand 57 = .ok (.putfield 50, 3) := by decide +kernel
set_option maxRecDepth 20000 in
theorem dX3_endOperand_60 : decode cX3_endOperand 60 = .ok (.return_, 1) := by decide +kernel
set_option maxRecDepth 20000 in
theorem dX3_takeFollower_0 : decode cX3_takeFollower 0 = .ok (.iload_n 1, 1) := by decide +kernel
set_option maxRecDepth 20000 in
theorem dX3_takeFollower_1 : decode cX3_takeFollower 1 = .ok (.bipush 41, 2) := by decide +kernel
set_option maxRecDepth 20000 in
theorem dX3_takeFollower_3 : decode cX3_takeFollower 3 = .ok (.if_icmp .ne 8, 3) := by decide +kernel
set_option maxRecDepth 20000 in
theorem dX3_takeFollower_6 : decode cX3_takeFollower 6 = .ok (.aload_n 0, 1) := by decide +kernel
set_option maxRecDepth 20000 in
theorem dX3_takeFollower_7 : decode cX3_takeFollower 7 = .ok (.invokevirtual 101, 3) := by decide +kernel
set_option maxRecDepth 20000 in
theorem dX3_takeFollower_10 : decode cX3_takeFollower 10 = .ok (.ireturn, 1) := by decide +kernel
set_option maxRecDepth 20000 in
theorem dX3_takeFollower_11 : decode cX3_takeFollower 11 = .ok (.iload_n 1, 1) := by decide +kernel
set_option maxRecDepth 20000 in
theorem dX3_takeFollower_12 : decode cX3_takeFollower 12 = .ok (.invokestatic 105, 3) := by decide +kernel
set_option maxRecDepth 20000 in
theorem dX3_takeFollower_15 : decode cX3_takeFollower 15 = .ok (.istore_n 2, 1) := by decide +kernel
set_option maxRecDepth 20000 in
theorem dX3_takeFollower_16 : decode cX3_takeFollower 16 = .ok (.iload_n 2, 1) := by decide +kernel
set_option maxRecDepth 20000 in
theorem dX3_takeFollower_17 : decode cX3_takeFollower 17 = .ok (.ifCond .ne 5, 3) := by decide +kernel
set_option maxRecDepth 20000 in
theorem dX3_takeFollower_20 : decode cX3_takeFollower 20 = .ok (.iconst 0, 1) := by decide +kernel
set_option maxRecDepth 20000 in
theorem dX3_takeFollower_21 : decode cX3_takeFollower 21 = .ok (.ireturn, 1) := by decide +kernel
set_option maxRecDepth 20000 in
theorem dX3_takeFollower_22 : decode cX3_takeFollower 22 = .ok (.aload_n 0, 1) := by decide +kernel
set_option maxRecDepth 20000 in
theorem dX3_takeFollower_23 : decode cX3_takeFollower 23 = .ok (.iload_n 2, 1) := by decide +kernel
set_option maxRecDepth 20000 in
theorem dX3_takeFollower_24 : decode cX3_takeFollower 24 = .ok (.iconst 3, 1) := by decide +kernel
set_option maxRecDepth 20000 in
theorem dX3_takeFollower_25 : decode cX3_takeFollower 25 = .ok (.if_icmp .ne 7, 3) := by decide +kernel
set_option maxRecDepth 20000 in
theorem dX3_takeFollower_28 : decode cX3_takeFollower 28 = .ok (.iconst 4, 1) := by decide +kernel
set_option maxRecDepth 20000 in
theorem dX3_takeFollower_29 : decode cX3_takeFollower 29 = .ok (.goto 4, 3) := by decide +kernel
set_option maxRecDepth 20000 in
theorem dX3_takeFollower_32 : decode cX3_takeFollower 32 = .ok (.iload_n 2, 1) := by decide +kernel
set_option maxRecDepth 20000 in
theorem dX3_takeFollower_33 : decode cX3_takeFollower 33 = .ok (.invokevirtual 70, 3) := by decide +kernel
set_option maxRecDepth 20000 in
theorem dX3_takeFollower_36 : decode cX3_takeFollower 36 = .ok (.iload_n 2, 1) := by decide +kernel
set_option maxRecDepth 20000 in
theorem dX3_takeFollower_37 : decode cX3_takeFollower 37 = .ok (.iconst 3, 1) := by decide +kernel
set_option maxRecDepth 20000 in
theorem dX3_takeFollower_38 : decode cX3_takeFollower 38 = .ok (.if_icmp .ne 30, 3) := by decide +kernel
set_option maxRecDepth 20000 in
theorem dX3_takeFollower_41 : decode cX3_takeFollower 41 = .ok (.aload_n 0, 1) := by decide +kernel
set_option maxRecDepth 20000 in
theorem dX3_takeFollower_42 : decode cX3_takeFollower 42 = .ok (.getfield 41, 3) := by decide +kernel
set_option maxRecDepth 20000 in
theorem dX3_takeFollower_45 : decode cX3_takeFollower 45 = .ok (.ifCond .le 23, 3) := by decide +kernel
set_option maxRecDepth 20000 in
theorem dX3_takeFollower_48 : decode cX3_takeFollower 48 = .ok (.aload_n 0, 1) := by decide +kernel
set_option maxRecDepth 20000 in
theorem dX3_takeFollower_49 : decode cX3_takeFollower 49 = .ok (.getfield 37, 3) := by decide +kernel
set_option maxRecDepth 20000 in
theorem dX3_takeFollower_52 : decode cX3_takeFollower 52 = .ok (.aload_n 0, 1) := by decide +kernel
set_option maxRecDepth 20000 in
theorem dX3_takeFollower_53 : decode cX3_takeFollower 53 = .ok (.getfield 41, 3) := by decide +kernel
set_option maxRecDepth 20000 in
theorem dX3_takeFollower_56 : decode cX3_takeFollower 56 = .ok (.iconst 1, 1) := by decide +kernel
set_option maxRecDepth 20000 in
theorem dX3_takeFollower_57 : decode cX3_takeFollower 57 = .ok (.isub, 1) := by decide +kernel
set_option maxRecDepth 20000 in
theorem dX3_takeFollower_58 : decode cX3_takeFollower 58 = .ok (.iaload, 1) := by decide +kernel
set_option maxRecDepth 20000 in
theorem dX3_takeFollower_59 : decode cX3_takeFollower 59 = .ok (.invokestatic 105, 3) := by decide +kernel
set_option maxRecDepth 20000 in
theorem dX3_takeFollower_62 : decode cX3_takeFollower 62 = .ok (.iconst 3, 1) := by decide +kernel
set_option maxRecDepth 20000 in
theorem dX3_takeFollower_63 : decode cX3_takeFollower 63 = .ok (.if_icmp .ne 5, 3) := by decide +kernel
set_option maxRecDepth 20000 in
theorem dX3_takeFollower_66 : decode cX3_takeFollower 66 = .ok (.iconst 0, 1) := by decide +kernel
set_option maxRecDepth 20000 in
theorem dX3_takeFollower_67 : decode cX3_takeFollower 67 = .ok (.ireturn, 1) := by decide +kernel
set_option maxRecDepth 20000 in
theorem dX3_takeFollower_68 : decode cX3_takeFollower 68 = .ok (.aload_n 0, 1) := by decide +kernel
set_option maxRecDepth 20000 in
theorem dX3_takeFollower_69 : decode cX3_takeFollower 69 = .ok (.iload_n 1, 1) := by decide +kernel
set_option maxRecDepth 20000 in
theorem dX3_takeFollower_70 : decode cX3_takeFollower 70 = .ok (.invokevirtual 98, 3) := by decide +kernel
set_option maxRecDepth 20000 in
theorem dX3_takeFollower_73 : decode cX3_takeFollower 73 = .ok (.aload_n 0, 1) := by decide +kernel
set_option maxRecDepth 20000 in
theorem dX3_takeFollower_74 : decode cX3_takeFollower 74 = .ok (.iconst 1, 1) := by decide +kernel
set_option maxRecDepth 20000 in
theorem dX3_takeFollower_75 : decode cX3_takeFollower 75 = .ok (.putfield 50, 3) := by decide +kernel
set_option maxRecDepth 20000 in
theorem dX3_takeFollower_78 : decode cX3_takeFollower 78 = .ok (.aload_n 0, 1) := by decide +kernel
set_option maxRecDepth 20000 in
theorem dX3_takeFollower_79 : decode cX3_takeFollower 79 = .ok (.dup, 1) := by decide +kernel
set_option maxRecDepth 20000 in
theorem dX3_takeFollower_80 : decode cX3_takeFollower 80 = .ok (.getfield 34, 3) := by decide +kernel
set_option maxRecDepth 20000 in
theorem dX3_takeFollower_83 : decode cX3_takeFollower 83 = .ok (.iconst 1, 1) := by decide +kernel
set_option maxRecDepth 20000 in
theorem dX3_takeFollower_84 : decode cX3_takeFollower 84 = .ok (.iadd, 1) := by decide +kernel
set_option maxRecDepth 20000 in
theorem dX3_takeFollower_85 : decode cX3_takeFollower 85 = .ok (.putfield 34, 3) := by decide +kernel
set_option maxRecDepth 20000 in
theorem dX3_takeFollower_88 : decode cX3_takeFollower 88 = .ok (.iconst 1, 1) := by decide +kernel
set_option maxRecDepth 20000 in
theorem dX3_takeFollower_89 : decode cX3_takeFollower 89 = .ok (.ireturn, 1) := by decide +kernel
set_option maxRecDepth 20000 in
theorem dX3_takeClosing_0 : decode cX3_takeClosing 0 = .ok (.aload_n 0, 1) := by decide +kernel
set_option maxRecDepth 20000 in
theorem dX3_takeClosing_1 : decode cX3_takeClosing 1 = .ok (.getfield 47, 3) := by decide +kernel
set_option maxRecDepth 20000 in
theorem dX3_takeClosing_4 : decode cX3_takeClosing 4 = .ok (.ifCond .ne 5, 3) := by decide +kernel
set_option maxRecDepth 20000 in
theorem dX3_takeClosing_7 : decode cX3_takeClosing 7 = .ok (.iconst 0, 1) := by decide +kernel
set_option maxRecDepth 20000 in
theorem dX3_takeClosing_8 : decode cX3_takeClosing 8 = .ok (.ireturn, 1) := by decide +kernel
set_option maxRecDepth 20000 in
theorem dX3_takeClosing_9 : decode cX3_takeClosing 9 = .ok (.aload_n 0, 1) := by decide +kernel
set_option maxRecDepth 20000 in
theorem dX3_takeClosing_10 : decode cX3_takeClosing 10 = .ok (.iconst 1, 1) := by decide +kernel
set_option maxRecDepth 20000 in
theorem dX3_takeClosing_11 : decode cX3_takeClosing 11 = .ok (.invokevirtual 70, 3) := by decide +kernel
set_option maxRecDepth 20000 in
theorem dX3_takeClosing_14 : decode cX3_takeClosing 14 = .ok (.aload_n 0, 1) := by decide +kernel
set_option maxRecDepth 20000 in
theorem dX3_takeClosing_15 : decode cX3_takeClosing 15 = .ok (.iconst 0, 1) := by decide +kernel
set_option maxRecDepth 20000 in
theorem dX3_takeClosing_16 : decode cX3_takeClosing 16 = .ok (.aload_n 0, 1) := by decide +kernel
set_option maxRecDepth 20000 in
theorem dX3_takeClosing_17 : decode cX3_takeClosing 17 = .ok (.getfield 41, 3) := by decide +kernel
set_option maxRecDepth 20000 in
theorem dX3_takeClosing_20 : decode cX3_takeClosing 20 = .ok (.iconst 1, 1) := by decide +kernel
set_option maxRecDepth 20000 in
theorem dX3_takeClosing_21 : decode cX3_takeClosing 21 = .ok (.isub, 1) := by decide +kernel
set_option maxRecDepth 20000 in
theorem dX3_takeClosing_22 : decode cX3_takeClosing 22 = .ok (.invokestatic 108, 3) := by decide +kernel
set_option maxRecDepth 20000 in
theorem dX3_takeClosing_25 : decode cX3_takeClosing 25 = .ok (.putfield 41, 3) := by decide +kernel
set_option maxRecDepth 20000 in
theorem dX3_takeClosing_28 : decode cX3_takeClosing 28 = .ok (.aload_n 0, 1) := by decide +kernel
set_option maxRecDepth 20000 in
theorem dX3_takeClosing_29 : decode cX3_takeClosing 29 = .ok (.dup, 1) := by decide +kernel
set_option maxRecDepth 20000 in
theorem dX3_takeClosing_30 : decode cX3_takeClosing 30 = .ok (.getfield 47, 3) := by decide +kernel
set_option maxRecDepth 20000 in
theorem dX3_takeClosing_33 : decode cX3_takeClosing 33 = .ok (.iconst 1, 1) := by decide +kernel
set_option maxRecDepth 20000 in
theorem dX3_takeClosing_34 : decode cX3_takeClosing 34 = .ok (.isub, 1) := by decide +kernel
set_option maxRecDepth 20000 in
theorem dX3_takeClosing_35 : decode cX3_takeClosing 35 = .ok (.putfield 47, 3) := by decide +kernel
set_option maxRecDepth 20000 in
theorem dX3_takeClosing_38 : decode cX3_takeClosing 38 = .ok (.aload_n 0, 1) := by decide +kernel
set_option maxRecDepth 20000 in
theorem dX3_takeClosing_39 : decode cX3_takeClosing 39 = .ok (.dup, 1) := by decide +kernel
set_option maxRecDepth 20000 in
theorem dX3_takeClosing_40 : decode cX3_takeClosing 40 = .ok (.getfield 44, 3) := by decide +kernel
set_option maxRecDepth 20000 in
theorem dX3_takeClosing_43 : decode cX3_takeClosing 43 = .ok (.iconst 1, 1) := by decide +kernel
set_option maxRecDepth 20000 in
theorem dX3_takeClosing_44 : decode cX3_takeClosing 44 = .ok (.isub, 1) := by decide +kernel
set_option maxRecDepth 20000 in
theorem dX3_takeClosing_45 : decode cX3_takeClosing 45 = .ok (.putfield 44, 3) := by decide +kernel
set_option maxRecDepth 20000 in
theorem dX3_takeClosing_48 : decode cX3_takeClosing 48 = .ok (.aload_n 0, 1) := by decide +kernel
set_option maxRecDepth 20000 in
theorem dX3_takeClosing_49 : decode cX3_takeClosing 49 = .ok (.dup, 1) := by decide +kernel
set_option maxRecDepth 20000 in
theorem dX3_takeClosing_50 : decode cX3_takeClosing 50 = .ok (.getfield 34, 3) := by decide +kernel
set_option maxRecDepth 20000 in
theorem dX3_takeClosing_53 : decode cX3_takeClosing 53 = .ok (.iconst 1, 1) := by decide +kernel
set_option maxRecDepth 20000 in
theorem dX3_takeClosing_54 : decode cX3_takeClosing 54 = .ok (.iadd, 1) := by decide +kernel
set_option maxRecDepth 20000 in
theorem dX3_takeClosing_55 : decode cX3_takeClosing 55 = .ok (.putfield 34, 3) := by decide +kernel
set_option maxRecDepth 20000 in
theorem dX3_takeClosing_58 : decode cX3_takeClosing 58 = .ok (.aload_n 0, 1) := by decide +kernel
set_option maxRecDepth 20000 in
theorem dX3_takeClosing_59 : decode cX3_takeClosing 59 = .ok (.invokevirtual 95, 3) := by decide +kernel
set_option maxRecDepth 20000 in
theorem dX3_takeClosing_62 : decode cX3_takeClosing 62 = .ok (.iconst 1, 1) := by decide +kernel
set_option maxRecDepth 20000 in
theorem dX3_takeClosing_63 : decode cX3_takeClosing 63 = .ok (.ireturn, 1) := by decide +kernel
set_option maxRecDepth 20000 in
theorem dX3_pushSign_0 : decode cX3_pushSign 0 = .ok (.aload_n 0, 1) := by decide +kernel
set_option maxRecDepth 20000 in
theorem dX3_pushSign_1 : decode cX3_pushSign 1 = .ok (.getfield 41, 3) := by decide +kernel
set_option maxRecDepth 20000 in
theorem dX3_pushSign_4 : decode cX3_pushSign 4 = .ok (.bipush 50, 2) := by decide +kernel
set_option maxRecDepth 20000 in
theorem dX3_pushSign_6 : decode cX3_pushSign 6 = .ok (.if_icmp .ge 23, 3) := by decide +kernel
set_option maxRecDepth 20000 in
theorem dX3_pushSign_9 : decode cX3_pushSign 9 = .ok (.aload_n 0, 1) := by decide +kernel
set_option maxRecDepth 20000 in
theorem dX3_pushSign_10 : decode cX3_pushSign 10 = .ok (.getfield 37, 3) := by decide +kernel
set_option maxRecDepth 20000 in
theorem dX3_pushSign_13 : decode cX3_pushSign 13 = .ok (.aload_n 0, 1) := by decide +kernel
set_option maxRecDepth 20000 in
theorem dX3_pushSign_14 : decode cX3_pushSign 14 = .ok (.getfield 41, 3) := by decide +kernel
set_option maxRecDepth 20000 in
theorem dX3_pushSign_17 : decode cX3_pushSign 17 = .ok (.iload_n 1, 1) := by decide +kernel
set_option maxRecDepth 20000 in
theorem dX3_pushSign_18 : decode cX3_pushSign 18 = .ok (.iastore, 1) := by decide +kernel
set_option maxRecDepth 20000 in
theorem dX3_pushSign_19 : decode cX3_pushSign 19 = .ok (.aload_n 0, 1) := by decide +kernel
set_option maxRecDepth 20000 in
theorem dX3_pushSign_20 : decode cX3_pushSign 20 = .ok (.dup, 1) := by decide +kernel
set_option maxRecDepth 20000 in
theorem dX3_pushSign_21 : decode cX3_pushSign 21 = .ok (.getfield 41, 3) := by decide +kernel
set_option maxRecDepth 20000 in
theorem dX3_pushSign_24 : decode cX3_pushSign 24 = .ok (.iconst 1, 1) := by decide +kernel
set_option maxRecDepth 20000 in
theorem dX3_pushSign_25 : decode cX3_pushSign 25 = .ok (.iadd, 1) := by decide +kernel
set_option maxRecDepth 20000 in
theorem dX3_pushSign_26 : decode cX3_pushSign 26 = .ok (.putfield 41, 3) := by decide +kernel
set_option maxRecDepth 20000 in
theorem dX3_pushSign_29 : decode cX3_pushSign 29 = .ok (.return_, 1) := by decide +kernel
set_option maxRecDepth 20000 in
theorem dX3_popDownTo_0 : decode cX3_popDownTo 0 = .ok (.aload_n 0, 1) := by decide +kernel
set_option maxRecDepth 20000 in
theorem dX3_popDownTo_1 : decode cX3_popDownTo 1 = .ok (.getfield 41, 3) := by decide +kernel
set_option maxRecDepth 20000 in
theorem dX3_popDownTo_4 : decode cX3_popDownTo 4 = .ok (.ifCond .le 51, 3) := by decide +kernel
set_option maxRecDepth 20000 in
theorem dX3_popDownTo_7 : decode cX3_popDownTo 7 = .ok (.aload_n 0, 1) := by decide +kernel
set_option maxRecDepth 20000 in
theorem dX3_popDownTo_8 : decode cX3_popDownTo 8 = .ok (.getfield 37, 3) := by decide +kernel
set_option maxRecDepth 20000 in
theorem dX3_popDownTo_11 : decode cX3_popDownTo 11 = .ok (.aload_n 0, 1) := by decide +kernel
set_option maxRecDepth 20000 in
theorem dX3_popDownTo_12 : decode cX3_popDownTo 12 = .ok (.getfield 41, 3) := by decide +kernel
set_option maxRecDepth 20000 in
theorem dX3_popDownTo_15 : decode cX3_popDownTo 15 = .ok (.iconst 1, 1) := by decide +kernel
set_option maxRecDepth 20000 in
theorem dX3_popDownTo_16 : decode cX3_popDownTo 16 = .ok (.isub, 1) := by decide +kernel
set_option maxRecDepth 20000 in
theorem dX3_popDownTo_17 : decode cX3_popDownTo 17 = .ok (.iaload, 1) := by decide +kernel
set_option maxRecDepth 20000 in
theorem dX3_popDownTo_18 : decode cX3_popDownTo 18 = .ok (.invokestatic 105, 3) := by decide +kernel
set_option maxRecDepth 20000 in
theorem dX3_popDownTo_21 : decode cX3_popDownTo 21 = .ok (.iload_n 1, 1) := by decide +kernel
set_option maxRecDepth 20000 in
theorem dX3_popDownTo_22 : decode cX3_popDownTo 22 = .ok (.if_icmp .lt 33, 3) := by decide +kernel
set_option maxRecDepth 20000 in
theorem dX3_popDownTo_25 : decode cX3_popDownTo 25 = .ok (.aload_n 0, 1) := by decide +kernel
set_option maxRecDepth 20000 in
theorem dX3_popDownTo_26 : decode cX3_popDownTo 26 = .ok (.dup, 1) := by decide +kernel
set_option maxRecDepth 20000 in
theorem dX3_popDownTo_27 : decode cX3_popDownTo 27 = .ok (.getfield 41, 3) := by decide +kernel
set_option maxRecDepth 20000 in
theorem dX3_popDownTo_30 : decode cX3_popDownTo 30 = .ok (.iconst 1, 1) := by decide +kernel
set_option maxRecDepth 20000 in
theorem dX3_popDownTo_31 : decode cX3_popDownTo 31 = .ok (.isub, 1) := by decide +kernel
set_option maxRecDepth 20000 in
theorem dX3_popDownTo_32 : decode cX3_popDownTo 32 = .ok (.putfield 41, 3) := by decide +kernel
set_option maxRecDepth 20000 in
theorem dX3_popDownTo_35 : decode cX3_popDownTo 35 = .ok (.aload_n 0, 1) := by decide +kernel
set_option maxRecDepth 20000 in
theorem dX3_popDownTo_36 : decode cX3_popDownTo 36 = .ok (.getfield 14, 3) := by decide +kernel
set_option maxRecDepth 20000 in
theorem dX3_popDownTo_39 : decode cX3_popDownTo 39 = .ok (.aload_n 0, 1) := by decide +kernel
set_option maxRecDepth 20000 in
theorem dX3_popDownTo_40 : decode cX3_popDownTo 40 = .ok (.getfield 37, 3) := by decide +kernel
set_option maxRecDepth 20000 in
theorem dX3_popDownTo_43 : decode cX3_popDownTo 43 = .ok (.aload_n 0, 1) := by decide +kernel
set_option maxRecDepth 20000 in
theorem dX3_popDownTo_44 : decode cX3_popDownTo 44 = .ok (.getfield 41, 3) := by decide +kernel
set_option maxRecDepth 20000 in
theorem dX3_popDownTo_47 : decode cX3_popDownTo 47 = .ok (.iaload, 1) := by decide +kernel
set_option maxRecDepth 20000 in
theorem dX3_popDownTo_48 : decode cX3_popDownTo 48 = .ok (.ineg, 1) := by decide +kernel
set_option maxRecDepth 20000 in
theorem dX3_popDownTo_49 : decode cX3_popDownTo 49 = .ok (.invokevirtual 86, 3) := by decide +kernel
set_option maxRecDepth 20000 in
theorem dX3_popDownTo_52 : decode cX3_popDownTo 52 = .ok (.goto (-52), 3) := by decide +kernel
set_option maxRecDepth 20000 in
theorem dX3_popDownTo_55 : decode cX3_popDownTo 55 = .ok (.return_, 1) := by decide +kernel
set_option maxRecDepth 20000 in
theorem dX3_isDigit_0 : decode cX3_isDigit 0 = .ok (.iload_n 0, 1) := by decide +kernel
set_option maxRecDepth 20000 in
theorem dX3_isDigit_1 : decode cX3_isDigit 1 = .ok (.bipush 48, 2) := by decide +kernel
set_option maxRecDepth 20000 in
theorem dX3_isDigit_3 : decode cX3_isDigit 3 = .ok (.if_icmp .lt 13, 3) := by decide +kernel
set_option maxRecDepth 20000 in
theorem dX3_isDigit_6 : decode cX3_isDigit 6 = .ok (.iload_n 0, 1) := by decide +kernel
set_option maxRecDepth 20000 in
theorem dX3_isDigit_7 : decode cX3_isDigit 7 = .ok (.bipush 57, 2) := by decide +kernel
set_option maxRecDepth 20000 in
theorem dX3_isDigit_9 : decode cX3_isDigit 9 = .ok (.if_icmp .gt 7, 3) := by decide +kernel
set_option maxRecDepth 20000 in
theorem dX3_isDigit_12 : decode cX3_isDigit 12 = .ok (.iconst 1, 1) := by decide +kernel
set_option maxRecDepth 20000 in
theorem dX3_isDigit_13 : decode cX3_isDigit 13 = .ok (.goto 4, 3) := by decide +kernel
set_option maxRecDepth 20000 in
theorem dX3_isDigit_16 : decode cX3_isDigit 16 = .ok (.iconst 0, 1) := by decide +kernel
set_option maxRecDepth 20000 in
theorem dX3_isDigit_17 : decode cX3_isDigit 17 = .ok (.ireturn, 1) := by decide +kernel
set_option maxRecDepth 20000 in
theorem dX3_levelOf_0 : decode cX3_levelOf 0 = .ok (.iload_n 0, 1) := by decide +kernel
set_option maxRecDepth 20000 in
theorem dX3_levelOf_1 : decode cX3_levelOf 1 = .ok (.lookupswitch 101 #[(37, 99), (38, 93), (42, 99), (43, 97), (45, 97), (47, 99), (60, 95), (61, 95), (62, 95), (124, 91)], 91) := by decide +kernel
set_option maxRecDepth 20000 in
theorem dX3_levelOf_92 : decode cX3_levelOf 92 = .ok (.iconst 1, 1) := by decide +kernel
set_option maxRecDepth 20000 in
theorem dX3_levelOf_93 : decode cX3_levelOf 93 = .ok (.ireturn, 1) := by decide +kernel
set_option maxRecDepth 20000 in
theorem dX3_levelOf_94 : decode cX3_levelOf 94 = .ok (.iconst 2, 1) := by decide +kernel
set_option maxRecDepth 20000 in
theorem dX3_levelOf_95 : decode cX3_levelOf 95 = .ok (.ireturn, 1) := by decide +kernel
set_option maxRecDepth 20000 in
theorem dX3_levelOf_96 : decode cX3_levelOf 96 = .ok (.iconst 3, 1) := by decide +kernel
set_option maxRecDepth 20000 in
theorem dX3_levelOf_97 : decode cX3_levelOf 97 = .ok (.ireturn, 1) := by decide +kernel
set_option maxRecDepth 20000 in
theorem dX3_levelOf_98 : decode cX3_levelOf 98 = .ok (.iconst 4, 1) := by decide +kernel
set_option maxRecDepth 20000 in
theorem dX3_levelOf_99 : decode cX3_levelOf 99 = .ok (.ireturn, 1) := by decide +kernel
set_option maxRecDepth 20000 in
theorem dX3_levelOf_100 : decode cX3_levelOf 100 = .ok (.iconst 5, 1) := by decide +kernel
set_option maxRecDepth 20000 in
theorem dX3_levelOf_101 : decode cX3_levelOf 101 = .ok (.ireturn, 1) := by decide +kernel
set_option maxRecDepth 20000 in
theorem dX3_levelOf_102 : decode cX3_levelOf 102 = .ok (.iconst 0, 1) := by decide +kernel
set_option maxRecDepth 20000 in
theorem dX3_levelOf_103 : decode cX3_levelOf 103 = .ok (.ireturn, 1) := by decide +kernel
set_option maxRecDepth 20000 in
theorem dX4_init_0 : decode cX4_init 0 = .ok (.aload_n 0, 1) := by decide +kernel
set_option maxRecDepth 20000 in
theorem dX4_init_1 : decode cX4_init 1 = .ok (.invokespecial 3, 3) := by decide +kernel
set_option maxRecDepth 20000 in
theorem dX4_init_4 : decode cX4_init 4 = .ok (.aload_n 0, 1) := by decide +kernel
set_option maxRecDepth 20000 in
theorem dX4_init_5 : decode cX4_init 5 = .ok (.iconst 0, 1) := by decide +kernel
set_option maxRecDepth 20000 in
theorem dX4_init_6 : decode cX4_init 6 = .ok (.putfield 9, 3) := by decide +kernel
set_option maxRecDepth 20000 in
theorem dX4_init_9 : decode cX4_init 9 = .ok (.aload_n 0, 1) := by decide +kernel
set_option maxRecDepth 20000 in
theorem dX4_init_10 : decode cX4_init 10 = .ok (.iconst 0, 1) := by decide +kernel
set_option maxRecDepth 20000 in
theorem dX4_init_11 : decode cX4_init 11 = .ok (.putfield 15, 3) := by decide +kernel
set_option maxRecDepth 20000 in
theorem dX4_init_14 : decode cX4_init 14 = .ok (.aload_n 0, 1) := by decide +kernel
set_option maxRecDepth 20000 in
theorem dX4_init_15 : decode cX4_init 15 = .ok (.bipush 40, 2) := by decide +kernel
set_option maxRecDepth 20000 in
theorem dX4_init_17 : decode cX4_init 17 = .ok (.newarray .int, 2) := by decide +kernel
set_option maxRecDepth 20000 in
theorem dX4_init_19 : decode cX4_init 19 = .ok (.putfield 18, 3) := by decide +kernel
set_option maxRecDepth 20000 in
theorem dX4_init_22 : decode cX4_init 22 = .ok (.return_, 1) := by decide +kernel
set_option maxRecDepth 20000 in
theorem dX4_isMissing_0 : decode cX4_isMissing 0 = .ok (.aload_n 0, 1) := by decide +kernel
set_option maxRecDepth 20000 in
theorem dX4_isMissing_1 : decode cX4_isMissing 1 = .ok (.getfield 9, 3) := by decide +kernel
set_option maxRecDepth 20000 in
theorem dX4_isMissing_4 : decode cX4_isMissing 4 = .ok (.ifCond .ne 7, 3) := by decide +kernel
set_option maxRecDepth 20000 in
theorem dX4_isMissing_7 : decode cX4_isMissing 7 = .ok (.iconst 1, 1) := by decide +kernel
set_option maxRecDepth 20000 in
theorem dX4_isMissing_8 : decode cX4_isMissing 8 = .ok (.goto 4, 3) := by decide +kernel
set_option maxRecDepth 20000 in
theorem dX4_isMissing_11 : decode cX4_isMissing 11 = .ok (.iconst 0, 1) := by decide +kernel
set_option maxRecDepth 20000 in
theorem dX4_isMissing_12 : decode cX4_isMissing 12 = .ok (.ireturn, 1) := by decide +kernel
set_option maxRecDepth 20000 in
theorem dX4_renew_0 : decode cX4_renew 0 = .ok (.aload_n 0, 1) := by decide +kernel
set_option maxRecDepth 20000 in
theorem dX4_renew_1 : decode cX4_renew 1 = .ok (.iload_n 1, 1) := by decide +kernel
set_option maxRecDepth 20000 in
theorem dX4_renew_2 : decode cX4_renew 2 = .ok (.putfield 9, 3) := by decide +kernel
set_option maxRecDepth 20000 in
theorem dX4_renew_5 : decode cX4_renew 5 = .ok (.aload_n 0, 1) := by decide +kernel
set_option maxRecDepth 20000 in
theorem dX4_renew_6 : decode cX4_renew 6 = .ok (.iload_n 2, 1) := by decide +kernel
set_option maxRecDepth 20000 in
theorem dX4_renew_7 : decode cX4_renew 7 = .ok (.bipush 40, 2) := by decide +kernel
set_option maxRecDepth 20000 in
theorem dX4_renew_9 : decode cX4_renew 9 = .ok (.invokestatic 22, 3) := by decide +kernel
set_option maxRecDepth 20000 in
theorem dX4_renew_12 : decode cX4_renew 12 = .ok (.putfield 15, 3) := by decide +kernel
set_option maxRecDepth 20000 in
theorem dX4_renew_15 : decode cX4_renew 15 = .ok (.iconst 0, 1) := by decide +kernel
set_option maxRecDepth 20000 in
theorem dX4_renew_16 : decode cX4_renew 16 = .ok (.istore_n 3, 1) := by decide +kernel
set_option maxRecDepth 20000 in
theorem dX4_renew_17 : decode cX4_renew 17 = .ok (.iload_n 3, 1) := by decide +kernel
set_option maxRecDepth 20000 in
theorem dX4_renew_18 : decode cX4_renew 18 = .ok (.bipush 40, 2) := by decide +kernel
set_option maxRecDepth 20000 in
theorem dX4_renew_20 : decode cX4_renew 20 = .ok (.if_icmp .ge 16, 3) := by decide +kernel
set_option maxRecDepth 20000 in
theorem dX4_renew_23 : decode cX4_renew 23 = .ok (.aload_n 0, 1) := by decide +kernel
set_option maxRecDepth 20000 in
theorem dX4_renew_24 : decode cX4_renew 24 = .ok (.getfield 18, 3) := by decide +kernel
set_option maxRecDepth 20000 in
theorem dX4_renew_27 : decode cX4_renew 27 = .ok (.iload_n 3, 1) := by decide +kernel
set_option maxRecDepth 20000 in
theorem dX4_renew_28 : decode cX4_renew 28 = .ok (.iconst 0, 1) := by decide +kernel
set_option maxRecDepth 20000 in
theorem dX4_renew_29 : decode cX4_renew 29 = .ok (.iastore, 1) := by decide +kernel
set_option maxRecDepth 20000 in
theorem dX4_renew_30 : decode cX4_renew 30 = .ok (.iinc 3 1, 3) := by decide +kernel
set_option maxRecDepth 20000 in
theorem dX4_renew_33 : decode cX4_renew 33 = .ok (.goto (-16), 3) := by decide +kernel
set_option maxRecDepth 20000 in
theorem dX4_renew_36 : decode cX4_renew 36 = .ok (.return_, 1) := by decide +kernel
set_option maxRecDepth 20000 in
theorem dX4_change_0 : decode cX4_change 0 = .ok (.aload_n 0, 1) := by decide +kernel
set_option maxRecDepth 20000 in
theorem dX4_change_1 : decode cX4_change 1 = .ok (.getfield 18, 3) := by decide +kernel
set_option maxRecDepth 20000 in
theorem dX4_change_4 : decode cX4_change 4 = .ok (.iload_n 1, 1) := by decide +kernel
set_option maxRecDepth 20000 in
theorem dX4_change_5 : decode cX4_change 5 = .ok (.aload_n 0, 1) := by decide +kernel
set_option maxRecDepth 20000 in
theorem dX4_change_6 : decode cX4_change 6 = .ok (.getfield 9, 3) := by decide +kernel
set_option maxRecDepth 20000 in
theorem dX4_change_9 : decode cX4_change 9 = .ok (.bipush 8, 2) := by decide +kernel
set_option maxRecDepth 20000 in
theorem dX4_change_11 : decode cX4_change 11 = .ok (.if_icmp .ne 8, 3) := by decide +kernel
set_option maxRecDepth 20000 in
theorem dX4_change_14 : decode cX4_change 14 = .ok (.iload_n 2, 1) := by decide +kernel
set_option maxRecDepth 20000 in
theorem dX4_change_15 : decode cX4_change 15 = .ok (.i2b, 1) := by decide +kernel
set_option maxRecDepth 20000 in
theorem dX4_change_16 : decode cX4_change 16 = .ok (.goto 18, 3) := by decide +kernel
set_option maxRecDepth 20000 in
theorem dX4_change_19 : decode cX4_change 19 = .ok (.aload_n 0, 1) := by decide +kernel
set_option maxRecDepth 20000 in
theorem dX4_change_20 : decode cX4_change 20 = .ok (.getfield 9, 3) := by decide +kernel
set_option maxRecDepth 20000 in
theorem dX4_change_23 : decode cX4_change 23 = .ok (.bipush 16, 2) := by decide +kernel
set_option maxRecDepth 20000 in
theorem dX4_change_25 : decode cX4_change 25 = .ok (.if_icmp .ne 8, 3) := by decide +kernel
set_option maxRecDepth 20000 in
theorem dX4_change_28 : decode cX4_change 28 = .ok (.iload_n 2, 1) := by decide +kernel
set_option maxRecDepth 20000 in
theorem dX4_change_29 : decode cX4_change 29 = .ok (.i2s, 1) := by decide +kernel
set_option maxRecDepth 20000 in
theorem dX4_change_30 : decode cX4_change 30 = .ok (.goto 4, 3) := by decide +kernel
set_option maxRecDepth 20000 in
theorem dX4_change_33 : decode cX4_change 33 = .ok (.iload_n 2, 1) := by decide +kernel
set_option maxRecDepth 20000 in
theorem dX4_change_34 : decode cX4_change 34 = .ok (.iastore, 1) := by decide +kernel
set_option maxRecDepth 20000 in
theorem dX4_change_35 : decode cX4_change 35 = .ok (.return_, 1) := by decide +kernel
set_option maxRecDepth 20000 in
theorem dX4_holds_0 : decode cX4_holds 0 = .ok (.iload_n 1, 1) := by decide +kernel
set_option maxRecDepth 20000 in
theorem dX4_holds_1 : decode cX4_holds 1 = .ok (.ifCond .lt 29, 3) := by decide +kernel
set_option maxRecDepth 20000 in
theorem dX4_holds_4 : decode cX4_holds 4 = .ok (.iload_n 2, 1) := by decide +kernel
set_option maxRecDepth 20000 in
theorem dX4_holds_5 : decode cX4_holds 5 = .ok (.ifCond .lt 25, 3) := by decide +kernel
set_option maxRecDepth 20000 in
theorem dX4_holds_8 : decode cX4_holds 8 = .ok (.iload_n 2, 1) := by decide +kernel
set_option maxRecDepth 20000 in
theorem dX4_holds_9 : decode cX4_holds 9 = .ok (.aload_n 0, 1) := by decide +kernel
set_option maxRecDepth 20000 in
theorem dX4_holds_10 : decode cX4_holds 10 = .ok (.getfield 15, 3) := by decide +kernel
set_option maxRecDepth 20000 in
theorem dX4_holds_13 : decode cX4_holds 13 = .ok (.if_icmp .gt 17, 3) := by decide +kernel
set_option maxRecDepth 20000 in
theorem dX4_holds_16 : decode cX4_holds 16 = .ok (.iload_n 1, 1) := by decide +kernel
set_option maxRecDepth 20000 in
theorem dX4_holds_17 : decode cX4_holds 17 = .ok (.aload_n 0, 1) := by decide +kernel
set_option maxRecDepth 20000 in
theorem dX4_holds_18 : decode cX4_holds 18 = .ok (.getfield 15, 3) := by decide +kernel
set_option maxRecDepth 20000 in
theorem dX4_holds_21 : decode cX4_holds 21 = .ok (.iload_n 2, 1) := by decide +kernel
set_option maxRecDepth 20000 in
theorem dX4_holds_22 : decode cX4_holds 22 = .ok (.isub, 1) := by decide +kernel
set_option maxRecDepth 20000 in
theorem dX4_holds_23 : decode cX4_holds 23 = .ok (.if_icmp .gt 7, 3) := by decide +kernel
set_option maxRecDepth 20000 in
theorem dX4_holds_26 : decode cX4_holds 26 = .ok (.iconst 1, 1) := by decide +kernel
set_option maxRecDepth 20000 in
theorem dX4_holds_27 : decode cX4_holds 27 = .ok (.goto 4, 3) := by decide +kernel
set_option maxRecDepth 20000 in
theorem dX4_holds_30 : decode cX4_holds 30 = .ok (.iconst 0, 1) := by decide +kernel
set_option maxRecDepth 20000 in
theorem dX4_holds_31 : decode cX4_holds 31 = .ok (.ireturn, 1) := by decide +kernel
set_option maxRecDepth 20000 in
theorem dX5_init_0 : decode cX5_init 0 = .ok (.aload_n 0, 1) := by decide +kernel
set_option maxRecDepth 20000 in
theorem dX5_init_1 : decode cX5_init 1 = .ok (.invokespecial 3, 3) := by decide +kernel
set_option maxRecDepth 20000 in
theorem dX5_init_4 : decode cX5_init 4 = .ok (.aload_n 0, 1) := by decide +kernel
set_option maxRecDepth 20000 in
theorem dX5_init_5 : decode cX5_init 5 = .ok (.bipush 50, 2) := by decide +kernel
set_option maxRecDepth 20000 in
theorem dX5_init_7 : decode cX5_init 7 = .ok (.newarray .int, 2) := by decide +kernel
set_option maxRecDepth 20000 in
theorem dX5_init_9 : decode cX5_init 9 = .ok (.putfield 9, 3) := by decide +kernel
set_option maxRecDepth 20000 in
theorem dX5_init_12 : decode cX5_init 12 = .ok (.aload_n 0, 1) := by decide +kernel
set_option maxRecDepth 20000 in
theorem dX5_init_13 : decode cX5_init 13 = .ok (.iconst 0, 1) := by decide +kernel
set_option maxRecDepth 20000 in
theorem dX5_init_14 : decode cX5_init 14 = .ok (.putfield 15, 3) := by decide +kernel
set_option maxRecDepth 20000 in
theorem dX5_init_17 : decode cX5_init 17 = .ok (.aload_n 0, 1) := by decide +kernel
set_option maxRecDepth 20000 in
theorem dX5_init_18 : decode cX5_init 18 = .ok (.bipush 50, 2) := by decide +kernel
set_option maxRecDepth 20000 in
theorem dX5_init_20 : decode cX5_init 20 = .ok (.newarray .int, 2) := by decide +kernel
set_option maxRecDepth 20000 in
theorem dX5_init_22 : decode cX5_init 22 = .ok (.putfield 19, 3) := by decide +kernel
set_option maxRecDepth 20000 in
theorem dX5_init_25 : decode cX5_init 25 = .ok (.iconst 0, 1) := by decide +kernel
set_option maxRecDepth 20000 in
theorem dX5_init_26 : decode cX5_init 26 = .ok (.istore_n 2, 1) := by decide +kernel
set_option maxRecDepth 20000 in
theorem dX5_init_27 : decode cX5_init 27 = .ok (.iload_n 2, 1) := by decide +kernel
set_option maxRecDepth 20000 in
theorem dX5_init_28 : decode cX5_init 28 = .ok (.aload_n 1, 1) := by decide +kernel
set_option maxRecDepth 20000 in
theorem dX5_init_29 : decode cX5_init 29 = .ok (.arraylength, 1) := by decide +kernel
set_option maxRecDepth 20000 in
theorem dX5_init_30 : decode cX5_init 30 = .ok (.if_icmp .ge 16, 3) := by decide +kernel
set_option maxRecDepth 20000 in
theorem dX5_init_33 : decode cX5_init 33 = .ok (.aload_n 0, 1) := by decide +kernel
set_option maxRecDepth 20000 in
theorem dX5_init_34 : decode cX5_init 34 = .ok (.aload_n 1, 1) := by decide +kernel
set_option maxRecDepth 20000 in
theorem dX5_init_35 : decode cX5_init 35 = .ok (.iload_n 2, 1) := by decide +kernel
set_option maxRecDepth 20000 in
theorem dX5_init_36 : decode cX5_init 36 = .ok (.iaload, 1) := by decide +kernel
set_option maxRecDepth 20000 in
theorem dX5_init_37 : decode cX5_init 37 = .ok (.invokevirtual 22, 3) := by decide +kernel
set_option maxRecDepth 20000 in
theorem dX5_init_40 : decode cX5_init 40 = .ok (.iinc 2 1, 3) := by decide +kernel
set_option maxRecDepth 20000 in
theorem dX5_init_43 : decode cX5_init 43 = .ok (.goto (-16), 3) := by decide +kernel
set_option maxRecDepth 20000 in
theorem dX5_init_46 : decode cX5_init 46 = .ok (.return_, 1) := by decide +kernel
set_option maxRecDepth 20000 in
theorem dX5_clear_0 : decode cX5_clear 0 = .ok (.aload_n 0, 1) := by decide +kernel
set_option maxRecDepth 20000 in
theorem dX5_clear_1 : decode cX5_clear 1 = .ok (.iconst 0, 1) := by decide +kernel
set_option maxRecDepth 20000 in
theorem dX5_clear_2 : decode cX5_clear 2 = .ok (.putfield 15, 3) := by decide +kernel
set_option maxRecDepth 20000 in
theorem dX5_clear_5 : decode cX5_clear 5 = .ok (.return_, 1) := by decide +kernel
set_option maxRecDepth 20000 in
theorem dX5_add_0 : decode cX5_add 0 = .ok (.aload_n 0, 1) := by decide +kernel
set_option maxRecDepth 20000 in
theorem dX5_add_1 : decode cX5_add 1 = .ok (.getfield 15, 3) := by decide +kernel
set_option maxRecDepth 20000 in
theorem dX5_add_4 : decode cX5_add 4 = .ok (.bipush 50, 2) := by decide +kernel
set_option maxRecDepth 20000 in
theorem dX5_add_6 : decode cX5_add 6 = .ok (.if_icmp .ge 23, 3) := by decide +kernel
set_option maxRecDepth 20000 in
theorem dX5_add_9 : decode cX5_add 9 = .ok (.aload_n 0, 1) := by decide +kernel
set_option maxRecDepth 20000 in
theorem dX5_add_10 : decode cX5_add 10 = .ok (.getfield 9, 3) := by decide +kernel
set_option maxRecDepth 20000 in
theorem dX5_add_13 : decode cX5_add 13 = .ok (.aload_n 0, 1) := by decide +kernel
set_option maxRecDepth 20000 in
theorem dX5_add_14 : decode cX5_add 14 = .ok (.getfield 15, 3) := by decide +kernel
set_option maxRecDepth 20000 in
theorem dX5_add_17 : decode cX5_add 17 = .ok (.iload_n 1, 1) := by decide +kernel
set_option maxRecDepth 20000 in
theorem dX5_add_18 : decode cX5_add 18 = .ok (.iastore, 1) := by decide +kernel
set_option maxRecDepth 20000 in
theorem dX5_add_19 : decode cX5_add 19 = .ok (.aload_n 0, 1) := by decide +kernel
set_option maxRecDepth 20000 in
theorem dX5_add_20 : decode cX5_add 20 = .ok (.dup, 1) := by decide +kernel
set_option maxRecDepth 20000 in
theorem dX5_add_21 : decode cX5_add 21 = .ok (.getfield 15, 3) := by decide +kernel
set_option maxRecDepth 20000 in
theorem dX5_add_24 : decode cX5_add 24 = .ok (.iconst 1, 1) := by decide +kernel
set_option maxRecDepth 20000 in
theorem dX5_add_25 : decode cX5_add 25 = .ok (.iadd, 1) := by decide +kernel
set_option maxRecDepth 20000 in
theorem dX5_add_26 : decode cX5_add 26 = .ok (.putfield 15, 3) := by decide +kernel
set_option maxRecDepth 20000 in
theorem dX5_add_29 : decode cX5_add 29 = .ok (.return_, 1) := by decide +kernel
set_option maxRecDepth 20000 in
theorem dX5_copyFrom_0 : decode cX5_copyFrom 0 = .ok (.aload_n 1, 1) := by decide +kernel
set_option maxRecDepth 20000 in
theorem dX5_copyFrom_1 : decode cX5_copyFrom 1 = .ok (.getfield 9, 3) := by decide +kernel
set_option maxRecDepth 20000 in
theorem dX5_copyFrom_4 : decode cX5_copyFrom 4 = .ok (.iconst 0, 1) := by decide +kernel
set_option maxRecDepth 20000 in
theorem dX5_copyFrom_5 : decode cX5_copyFrom 5 = .ok (.aload_n 0, 1) := by decide +kernel
set_option maxRecDepth 20000 in
theorem dX5_copyFrom_6 : decode cX5_copyFrom 6 = .ok (.getfield 9, 3) := by decide +kernel
set_option maxRecDepth 20000 in
theorem dX5_copyFrom_9 : decode cX5_copyFrom 9 = .ok (.iconst 0, 1) := by decide +kernel
set_option maxRecDepth 20000 in
theorem dX5_copyFrom_10 : decode cX5_copyFrom 10 = .ok (.bipush 50, 2) := by decide +kernel
set_option maxRecDepth 20000 in
theorem dX5_copyFrom_12 : decode cX5_copyFrom 12 = .ok (.invokestatic 26, 3) := by decide +kernel
set_option maxRecDepth 20000 in
theorem dX5_copyFrom_15 : decode cX5_copyFrom 15 = .ok (.aload_n 0, 1) := by decide +kernel
set_option maxRecDepth 20000 in
theorem dX5_copyFrom_16 : decode cX5_copyFrom 16 = .ok (.aload_n 1, 1) := by decide +kernel
set_option maxRecDepth 20000 in
theorem dX5_copyFrom_17 : decode cX5_copyFrom 17 = .ok (.getfield 15, 3) := by decide +kernel
set_option maxRecDepth 20000 in
theorem dX5_copyFrom_20 : decode cX5_copyFrom 20 = .ok (.putfield 15, 3) := by decide +kernel
set_option maxRecDepth 20000 in
theorem dX5_copyFrom_23 : decode cX5_copyFrom 23 = .ok (.return_, 1) := by decide +kernel
set_option maxRecDepth 20000 in
theorem dX5_value_0 : decode cX5_value 0 = .ok (.iconst 0, 1) := by decide +kernel
set_option maxRecDepth 20000 in
theorem dX5_value_1 : decode cX5_value 1 = .ok (.istore_n 2, 1) := by decide +kernel
set_option maxRecDepth 20000 in
theorem dX5_value_2 : decode cX5_value 2 = .ok (.iconst 0, 1) := by decide +kernel
set_option maxRecDepth 20000 in
theorem dX5_value_3 : decode cX5_value 3 = .ok (.istore_n 3, 1) := by decide +kernel
set_option maxRecDepth 20000 in
theorem dX5_value_4 : decode cX5_value 4 = .ok (.iload_n 3, 1) := by decide +kernel
set_option maxRecDepth 20000 in
theorem dX5_value_5 : decode cX5_value 5 = .ok (.aload_n 0, 1) := by decide +kernel
set_option maxRecDepth 20000 in
theorem dX5_value_6 : decode cX5_value 6 = .ok (.getfield 15, 3) := by decide +kernel
set_option maxRecDepth 20000 in
theorem dX5_value_9 : decode cX5_value 9 = .ok (.if_icmp .ge 135, 3) := by decide +kernel
set_option maxRecDepth 20000 in
theorem dX5_value_12 : decode cX5_value 12 = .ok (.aload_n 0, 1) := by decide +kernel
set_option maxRecDepth 20000 in
theorem dX5_value_13 : decode cX5_value 13 = .ok (.getfield 9, 3) := by decide +kernel
set_option maxRecDepth 20000 in
theorem dX5_value_16 : decode cX5_value 16 = .ok (.iload_n 3, 1) := by decide +kernel
set_option maxRecDepth 20000 in
theorem dX5_value_17 : decode cX5_value 17 = .ok (.iaload, 1) := by decide +kernel
set_option maxRecDepth 20000 in
theorem dX5_value_18 : decode cX5_value 18 = .ok (.istore 4, 2) := by decide +kernel
set_option maxRecDepth 20000 in
theorem dX5_value_20 : decode cX5_value 20 = .ok (.iload 4, 2) := by decide +kernel
set_option maxRecDepth 20000 in
theorem dX5_value_22 : decode cX5_value 22 = .ok (.ifCond .lt 17, 3) := by decide +kernel
set_option maxRecDepth 20000 in
theorem dX5_value_25 : decode cX5_value 25 = .ok (.aload_n 0, 1) := by decide +kernel
set_option maxRecDepth 20000 in
theorem dX5_value_26 : decode cX5_value 26 = .ok (.getfield 19, 3) := by decide +kernel
set_option maxRecDepth 20000 in
theorem dX5_value_29 : decode cX5_value 29 = .ok (.iload_n 2, 1) := by decide +kernel
set_option maxRecDepth 20000 in
theorem dX5_value_30 : decode cX5_value 30 = .ok (.iload 4, 2) := by decide +kernel
set_option maxRecDepth 20000 in
theorem dX5_value_32 : decode cX5_value 32 = .ok (.iastore, 1) := by decide +kernel
set_option maxRecDepth 20000 in
theorem dX5_value_33 : decode cX5_value 33 = .ok (.iinc 2 1, 3) := by decide +kernel
set_option maxRecDepth 20000 in
theorem dX5_value_36 : decode cX5_value 36 = .ok (.goto 102, 3) := by decide +kernel
set_option maxRecDepth 20000 in
theorem dX5_value_39 : decode cX5_value 39 = .ok (.iload 4, 2) := by decide +kernel
set_option maxRecDepth 20000 in
theorem dX5_value_41 : decode cX5_value 41 = .ok (.bipush (-5), 2) := by decide +kernel
set_option maxRecDepth 20000 in
theorem dX5_value_43 : decode cX5_value 43 = .ok (.if_icmp .lt 21, 3) := by decide +kernel
set_option maxRecDepth 20000 in
theorem dX5_value_46 : decode cX5_value 46 = .ok (.aload_n 0, 1) := by decide +kernel
set_option maxRecDepth 20000 in
theorem dX5_value_47 : decode cX5_value 47 = .ok (.getfield 19, 3) := by decide +kernel
set_option maxRecDepth 20000 in
theorem dX5_value_50 : decode cX5_value 50 = .ok (.iload_n 2, 1) := by decide +kernel
set_option maxRecDepth 20000 in
theorem dX5_value_51 : decode cX5_value 51 = .ok (.aload_n 1, 1) := by decide +kernel
set_option maxRecDepth 20000 in
theorem dX5_value_52 : decode cX5_value 52 = .ok (.iconst (-1), 1) := by decide +kernel
set_option maxRecDepth 20000 in
theorem dX5_value_53 : decode cX5_value 53 = .ok (.iload 4, 2) := by decide +kernel
set_option maxRecDepth 20000 in
theorem dX5_value_55 : decode cX5_value 55 = .ok (.isub, 1) := by decide +kernel
set_option maxRecDepth 20000 in
theorem dX5_value_56 : decode cX5_value 56 = .ok (.iaload, 1) := by decide +kernel
set_option maxRecDepth 20000 in
theorem dX5_value_57 : decode cX5_value 57 = .ok (.iastore, 1) := by decide +kernel
set_option maxRecDepth 20000 in
theorem dX5_value_58 : decode cX5_value 58 = .ok (.iinc 2 1, 3) := by decide +kernel
set_option maxRecDepth 20000 in
theorem dX5_value_61 : decode cX5_value 61 = .ok (.goto 77, 3) := by decide +kernel
set_option maxRecDepth 20000 in
theorem dX5_value_64 : decode cX5_value 64 = .ok (.iload 4, 2) := by decide +kernel
set_option maxRecDepth 20000 in
theorem dX5_value_66 : decode cX5_value 66 = .ok (.bipush (-33), 2) := by decide +kernel
set_option maxRecDepth 20000 in
theorem dX5_value_68 : decode cX5_value 68 = .ok (.if_icmp .ne 34, 3) := by decide +kernel
set_option maxRecDepth 20000 in
theorem dX5_value_71 : decode cX5_value 71 = .ok (.iload_n 2, 1) := by decide +kernel
set_option maxRecDepth 20000 in
theorem dX5_value_72 : decode cX5_value 72 = .ok (.ifCond .le 30, 3) := by decide +kernel
set_option maxRecDepth 20000 in
theorem dX5_value_75 : decode cX5_value 75 = .ok (.aload_n 0, 1) := by decide +kernel
set_option maxRecDepth 20000 in
theorem dX5_value_76 : decode cX5_value 76 = .ok (.getfield 19, 3) := by decide +kernel
set_option maxRecDepth 20000 in
theorem dX5_value_79 : decode cX5_value 79 = .ok (.iload_n 2, 1) := by decide +kernel
set_option maxRecDepth 20000 in
theorem dX5_value_80 : decode cX5_value 80 = .ok (.iconst 1, 1) := by decide +kernel
set_option maxRecDepth 20000 in
theorem dX5_value_81 : decode cX5_value 81 = .ok (.isub, 1) := by decide +kernel
set_option maxRecDepth 20000 in
theorem dX5_value_82 : decode cX5_value 82 = .ok (.aload_n 0, 1) := by decide +kernel
set_option maxRecDepth 20000 in
theorem dX5_value_83 : decode cX5_value 83 = .ok (.getfield 19, 3) := by decide +kernel
set_option maxRecDepth 20000 in
theorem dX5_value_86 : decode cX5_value 86 = .ok (.iload_n 2, 1) := by decide +kernel
set_option maxRecDepth 20000 in
theorem dX5_value_87 : decode cX5_value 87 = .ok (.iconst 1, 1) := by decide +kernel
set_option maxRecDepth 20000 in
theorem dX5_value_88 : decode cX5_value 88 = .ok (.isub, 1) := by decide +kernel
set_option maxRecDepth 20000 in
theorem dX5_value_89 : decode cX5_value 89 = .ok (.iaload, 1) := by decide +kernel
set_option maxRecDepth 20000 in
theorem dX5_value_90 : decode cX5_value 90 = .ok (.ifCond .ne 7, 3) := by decide +kernel
set_option maxRecDepth 20000 in
theorem dX5_value_93 : decode cX5_value 93 = .ok (.iconst 1, 1) := by decide +kernel
set_option maxRecDepth 20000 in
theorem dX5_value_94 : decode cX5_value 94 = .ok (.goto 4, 3) := by decide +kernel
set_option maxRecDepth 20000 in
theorem dX5_value_97 : decode cX5_value 97 = .ok (.iconst 0, 1) := by decide +kernel
set_option maxRecDepth 20000 in
theorem dX5_value_98 : decode cX5_value 98 = .ok (.iastore, 1) := by decide +kernel
set_option maxRecDepth 20000 in
theorem dX5_value_99 : decode cX5_value 99 = .ok (.goto 39, 3) := by decide +kernel
set_option maxRecDepth 20000 in
theorem dX5_value_102 : decode cX5_value 102 = .ok (.iload_n 2, 1) := by decide +kernel
set_option maxRecDepth 20000 in
theorem dX5_value_103 : decode cX5_value 103 = .ok (.iconst 1, 1) := by decide +kernel
set_option maxRecDepth 20000 in
theorem dX5_value_104 : decode cX5_value 104 = .ok (.if_icmp .le 34, 3) := by decide +kernel
set_option maxRecDepth 20000 in
theorem dX5_value_107 : decode cX5_value 107 = .ok (.iinc 2 (-1), 3) := by decide +kernel
set_option maxRecDepth 20000 in
theorem dX5_value_110 : decode cX5_value 110 = .ok (.aload_n 0, 1) := by decide +kernel
set_option maxRecDepth 20000 in
theorem dX5_value_111 : decode cX5_value 111 = .ok (.getfield 19, 3) := by decide +kernel
set_option maxRecDepth 20000 in
theorem dX5_value_114 : decode cX5_value 114 = .ok (.iload_n 2, 1) := by decide +kernel
set_option maxRecDepth 20000 in
theorem dX5_value_115 : decode cX5_value 115 = .ok (.iconst 1, 1) := by decide +kernel
set_option maxRecDepth 20000 in
theorem dX5_value_116 : decode cX5_value 116 = .ok (.isub, 1) := by decide +kernel
set_option maxRecDepth 20000 in
theorem dX5_value_117 : decode cX5_value 117 = .ok (.iload 4, 2) := by decide +kernel
set_option maxRecDepth 20000 in
theorem dX5_value_119 : decode cX5_value 119 = .ok (.ineg, 1) := by decide +kernel
set_option maxRecDepth 20000 in
theorem dX5_value_120 : decode cX5_value 120 = .ok (.aload_n 0, 1) := by decide +kernel
set_option maxRecDepth 20000 in
theorem dX5_value_121 : decode cX5_value 121 = .ok (.getfield 19, 3) := by decide +kernel
set_option maxRecDepth 20000 in
theorem dX5_value_124 : decode cX5_value 124 = .ok (.iload_n 2, 1) := by decide +kernel
set_option maxRecDepth 20000 in
theorem dX5_value_125 : decode cX5_value 125 = .ok (.iconst 1, 1) := by decide +kernel
set_option maxRecDepth 20000 in
theorem dX5_value_126 : decode cX5_value 126 = .ok (.isub, 1) := by decide +kernel
set_option maxRecDepth 20000 in
theorem dX5_value_127 : decode cX5_value 127 = .ok (.iaload, 1) := by decide +kernel
set_option maxRecDepth 20000 in
theorem dX5_value_128 : decode cX5_value 128 = .ok (.aload_n 0, 1) := by decide +kernel
set_option maxRecDepth 20000 in
theorem dX5_value_129 : decode cX5_value 129 = .ok (.getfield 19, 3) := by decide +kernel
set_option maxRecDepth 20000 in
theorem dX5_value_132 : decode cX5_value 132 = .ok (.iload_n 2, 1) := by decide +kernel
set_option maxRecDepth 20000 in
theorem dX5_value_133 : decode cX5_value 133 = .ok (.iaload, 1) := by decide +kernel
set_option maxRecDepth 20000 in
theorem dX5_value_134 : decode cX5_value 134 = .ok (.invokestatic 32, 3) := by decide +kernel
set_option maxRecDepth 20000 in
theorem dX5_value_137 : decode cX5_value 137 = .ok (.iastore, 1) := by decide +kernel
set_option maxRecDepth 20000 in
theorem dX5_value_138 : decode cX5_value 138 = .ok (.iinc 3 1, 3) := by decide +kernel
set_option maxRecDepth 20000 in
theorem dX5_value_141 : decode cX5_value 141 = .ok (.goto (-137), 3) := by decide +kernel
set_option maxRecDepth 20000 in
theorem dX5_value_144 : decode cX5_value 144 = .ok (.aload_n 0, 1) := by decide +kernel
set_option maxRecDepth 20000 in
theorem dX5_value_145 : decode cX5_value 145 = .ok (.getfield 19, 3) := by decide +kernel
set_option maxRecDepth 20000 in
theorem dX5_value_148 : decode cX5_value 148 = .ok (.iconst 0, 1) := by decide +kernel
set_option maxRecDepth 20000 in
theorem dX5_value_149 : decode cX5_value 149 = .ok (.iaload, 1) := by decide +kernel
set_option maxRecDepth 20000 in
theorem dX5_value_150 : decode cX5_value 150 = .ok (.ireturn, 1) := by decide +kernel
set_option maxRecDepth 20000 in
theorem dX5_join_0 : decode cX5_join 0 = .ok (.iload_n 0, 1) := by decide +kernel
set_option maxRecDepth 20000 in
theorem dX5_join_1 : decode cX5_join 1 = .ok (.lookupswitch 168 #[(38, 97), (42, 152), (43, 144), (45, 148), (47, 156), (60, 111), (61, 122), (62, 133), (124, 83)], 83) := by decide +kernel
set_option maxRecDepth 20000 in
theorem dX5_join_84 : decode cX5_join 84 = .ok (.iload_n 1, 1) := by decide +kernel
set_option maxRecDepth 20000 in
theorem dX5_join_85 : decode cX5_join 85 = .ok (.ifCond .ne 7, 3) := by decide +kernel
set_option maxRecDepth 20000 in
theorem dX5_join_88 : decode cX5_join 88 = .ok (.iload_n 2, 1) := by decide +kernel
set_option maxRecDepth 20000 in
theorem dX5_join_89 : decode cX5_join 89 = .ok (.ifCond .eq 7, 3) := by decide +kernel
set_option maxRecDepth 20000 in
theorem dX5_join_92 : decode cX5_join 92 = .ok (.iconst 1, 1) := by decide +kernel
set_option maxRecDepth 20000 in
theorem dX5_join_93 : decode cX5_join 93 = .ok (.goto 4, 3) := by decide +kernel
set_option maxRecDepth 20000 in
theorem dX5_join_96 : decode cX5_join 96 = .ok (.iconst 0, 1) := by decide +kernel
set_option maxRecDepth 20000 in
theorem dX5_join_97 : decode cX5_join 97 = .ok (.ireturn, 1) := by decide +kernel
set_option maxRecDepth 20000 in
theorem dX5_join_98 : decode cX5_join 98 = .ok (.iload_n 1, 1) := by decide +kernel
set_option maxRecDepth 20000 in
theorem dX5_join_99 : decode cX5_join 99 = .ok (.ifCond .eq 11, 3) := by decide +kernel
set_option maxRecDepth 20000 in
theorem dX5_join_102 : decode cX5_join 102 = .ok (.iload_n 2, 1) := by decide +kernel
set_option maxRecDepth 20000 in
theorem dX5_join_103 : decode cX5_join 103 = .ok (.ifCond .eq 7, 3) := by decide +kernel
set_option maxRecDepth 20000 in
theorem dX5_join_106 : decode cX5_join 106 = .ok (.iconst 1, 1) := by decide +kernel
set_option maxRecDepth 20000 in
theorem dX5_join_107 : decode cX5_join 107 = .ok (.goto 4, 3) := by decide +kernel
set_option maxRecDepth 20000 in
theorem dX5_join_110 : decode cX5_join 110 = .ok (.iconst 0, 1) := by decide +kernel
set_option maxRecDepth 20000 in
theorem dX5_join_111 : decode cX5_join 111 = .ok (.ireturn, 1) := by decide +kernel
set_option maxRecDepth 20000 in
theorem dX5_join_112 : decode cX5_join 112 = .ok (.iload_n 1, 1) := by decide +kernel
set_option maxRecDepth 20000 in
theorem dX5_join_113 : decode cX5_join 113 = .ok (.iload_n 2, 1) := by decide +kernel
set_option maxRecDepth 20000 in
theorem dX5_join_114 : decode cX5_join 114 = .ok (.if_icmp .ge 7, 3) := by decide +kernel
set_option maxRecDepth 20000 in
theorem dX5_join_117 : decode cX5_join 117 = .ok (.iconst 1, 1) := by decide +kernel
set_option maxRecDepth 20000 in
theorem dX5_join_118 : decode cX5_join 118 = .ok (.goto 4, 3) := by decide +kernel
set_option maxRecDepth 20000 in
theorem dX5_join_121 : decode cX5_join 121 = .ok (.iconst 0, 1) := by decide +kernel
set_option maxRecDepth 20000 in
theorem dX5_join_122 : decode cX5_join 122 = .ok (.ireturn, 1) := by decide +kernel
set_option maxRecDepth 20000 in
theorem dX5_join_123 : decode cX5_join 123 = .ok (.iload_n 1, 1) := by decide +kernel
set_option maxRecDepth 20000 in
theorem dX5_join_124 : decode cX5_join 124 = .ok (.iload_n 2, 1) := by decide +kernel
set_option maxRecDepth 20000 in
theorem dX5_join_125 : decode cX5_join 125 = .ok (.if_icmp .ne 7, 3) := by decide +kernel
set_option maxRecDepth 20000 in
theorem dX5_join_128 : decode cX5_join 128 = .ok (.iconst 1, 1) := by decide +kernel
set_option maxRecDepth 20000 in
theorem dX5_join_129 : decode cX5_join 129 = .ok (.goto 4, 3) := by decide +kernel
set_option maxRecDepth 20000 in
theorem dX5_join_132 : decode cX5_join 132 = .ok (.iconst 0, 1) := by decide +kernel
set_option maxRecDepth 20000 in
theorem dX5_join_133 : decode cX5_join 133 = .ok (.ireturn, 1) := by decide +kernel
set_option maxRecDepth 20000 in
theorem dX5_join_134 : decode cX5_join 134 = .ok (.iload_n 1, 1) := by decide +kernel
set_option maxRecDepth 20000 in
theorem dX5_join_135 : decode cX5_join 135 = .ok (.iload_n 2, 1) := by decide +kernel
set_option maxRecDepth 20000 in
theorem dX5_join_136 : decode cX5_join 136 = .ok (.if_icmp .le 7, 3) := by decide +kernel
set_option maxRecDepth 20000 in
theorem dX5_join_139 : decode cX5_join 139 = .ok (.iconst 1, 1) := by decide +kernel
set_option maxRecDepth 20000 in
theorem dX5_join_140 : decode cX5_join 140 = .ok (.goto 4, 3) := by decide +kernel
set_option maxRecDepth 20000 in
theorem dX5_join_143 : decode cX5_join 143 = .ok (.iconst 0, 1) := by decide +kernel
set_option maxRecDepth 20000 in
theorem dX5_join_144 : decode cX5_join 144 = .ok (.ireturn, 1) := by decide +kernel
set_option maxRecDepth 20000 in
theorem dX5_join_145 : decode cX5_join 145 = .ok (.iload_n 1, 1) := by decide +kernel
set_option maxRecDepth 20000 in
theorem dX5_join_146 : decode cX5_join 146 = .ok (.iload_n 2, 1) := by decide +kernel
set_option maxRecDepth 20000 in
theorem dX5_join_147 : decode cX5_join 147 = .ok (.iadd, 1) := by decide +kernel
set_option maxRecDepth 20000 in
theorem dX5_join_148 : decode cX5_join 148 = .ok (.ireturn, 1) := by decide +kernel
set_option maxRecDepth 20000 in
theorem dX5_join_149 : decode cX5_join 149 = .ok (.iload_n 1, 1) := by decide +kernel
set_option maxRecDepth 20000 in
theorem dX5_join_150 : decode cX5_join 150 = .ok (.iload_n 2, 1) := by decide +kernel
set_option maxRecDepth 20000 in
theorem dX5_join_151 : decode cX5_join 151 = .ok (.isub, 1) := by decide +kernel
set_option maxRecDepth 20000 in
theorem dX5_join_152 : decode cX5_join 152 = .ok (.ireturn, 1) := by decide +kernel
set_option maxRecDepth 20000 in
theorem dX5_join_153 : decode cX5_join 153 = .ok (.iload_n 1, 1) := by decide +kernel
set_option maxRecDepth 20000 in
theorem dX5_join_154 : decode cX5_join 154 = .ok (.iload_n 2, 1) := by decide +kernel
set_option maxRecDepth 20000 in
theorem dX5_join_155 : decode cX5_join 155 = .ok (.imul, 1) := by decide +kernel
set_option maxRecDepth 20000 in
theorem dX5_join_156 : decode cX5_join 156 = .ok (.ireturn, 1) := by decide +kernel
set_option maxRecDepth 20000 in
theorem dX5_join_157 : decode cX5_join 157 = .ok (.iload_n 2, 1) := by decide +kernel
set_option maxRecDepth 20000 in
theorem dX5_join_158 : decode cX5_join 158 = .ok (.ifCond .ne 7, 3) := by decide +kernel
set_option maxRecDepth 20000 in
theorem dX5_join_161 : decode cX5_join 161 = .ok (.iconst 0, 1) := by decide +kernel
set_option maxRecDepth 20000 in
theorem dX5_join_162 : decode cX5_join 162 = .ok (.goto 6, 3) := by decide +kernel
set_option maxRecDepth 20000 in
theorem dX5_join_165 : decode cX5_join 165 = .ok (.iload_n 1, 1) := by decide +kernel
set_option maxRecDepth 20000 in
theorem dX5_join_166 : decode cX5_join 166 = .ok (.iload_n 2, 1) := by decide +kernel
set_option maxRecDepth 20000 in
theorem dX5_join_167 : decode cX5_join 167 = .ok (.idiv, 1) := by decide +kernel
set_option maxRecDepth 20000 in
theorem dX5_join_168 : decode cX5_join 168 = .ok (.ireturn, 1) := by decide +kernel
set_option maxRecDepth 20000 in
theorem dX5_join_169 : decode cX5_join 169 = .ok (.iload_n 2, 1) := by decide +kernel
set_option maxRecDepth 20000 in
theorem dX5_join_170 : decode cX5_join 170 = .ok (.ifCond .ne 7, 3) := by decide +kernel
set_option maxRecDepth 20000 in
theorem dX5_join_173 : decode cX5_join 173 = .ok (.iconst 0, 1) := by decide +kernel
set_option maxRecDepth 20000 in
theorem dX5_join_174 : decode cX5_join 174 = .ok (.goto 6, 3) := by decide +kernel
set_option maxRecDepth 20000 in
theorem dX5_join_177 : decode cX5_join 177 = .ok (.iload_n 1, 1) := by decide +kernel
set_option maxRecDepth 20000 in
theorem dX5_join_178 : decode cX5_join 178 = .ok (.iload_n 2, 1) := by decide +kernel
set_option maxRecDepth 20000 in
theorem dX5_join_179 : decode cX5_join 179 = .ok (.irem, 1) := by decide +kernel
set_option maxRecDepth 20000 in
theorem dX5_join_180 : decode cX5_join 180 = .ok (.ireturn, 1) := by decide +kernel
set_option maxRecDepth 20000 in
theorem dX6_init_0 : decode cX6_init 0 = .ok (.aload_n 0, 1) := by decide +kernel
set_option maxRecDepth 20000 in
theorem dX6_init_1 : decode cX6_init 1 = .ok (.invokespecial 3, 3) := by decide +kernel
set_option maxRecDepth 20000 in
theorem dX6_init_4 : decode cX6_init 4 = .ok (.aload_n 0, 1) := by decide +kernel
set_option maxRecDepth 20000 in
theorem dX6_init_5 : decode cX6_init 5 = .ok (.bipush 6, 2) := by decide +kernel
set_option maxRecDepth 20000 in
theorem dX6_init_7 : decode cX6_init 7 = .ok (.newarray .int, 2) := by decide +kernel
set_option maxRecDepth 20000 in
theorem dX6_init_9 : decode cX6_init 9 = .ok (.putfield 9, 3) := by decide +kernel
set_option maxRecDepth 20000 in
theorem dX6_init_12 : decode cX6_init 12 = .ok (.aload_n 0, 1) := by decide +kernel
set_option maxRecDepth 20000 in
theorem dX6_init_13 : decode cX6_init 13 = .ok (.bipush 6, 2) := by decide +kernel
set_option maxRecDepth 20000 in
theorem dX6_init_15 : decode cX6_init 15 = .ok (.newarray .int, 2) := by decide +kernel
set_option maxRecDepth 20000 in
theorem dX6_init_17 : decode cX6_init 17 = .ok (.putfield 15, 3) := by decide +kernel
set_option maxRecDepth 20000 in
theorem dX6_init_20 : decode cX6_init 20 = .ok (.aload_n 0, 1) := by decide +kernel
set_option maxRecDepth 20000 in
theorem dX6_init_21 : decode cX6_init 21 = .ok (.bipush 6, 2) := by decide +kernel
set_option maxRecDepth 20000 in
theorem dX6_init_23 : decode cX6_init 23 = .ok (.newarray .int, 2) := by decide +kernel
set_option maxRecDepth 20000 in
theorem dX6_init_25 : decode cX6_init 25 = .ok (.putfield 18, 3) := by decide +kernel
set_option maxRecDepth 20000 in
theorem dX6_init_28 : decode cX6_init 28 = .ok (.aload_n 0, 1) := by decide +kernel
set_option maxRecDepth 20000 in
theorem dX6_init_29 : decode cX6_init 29 = .ok (.iconst 0, 1) := by decide +kernel
set_option maxRecDepth 20000 in
theorem dX6_init_30 : decode cX6_init 30 = .ok (.putfield 21, 3) := by decide +kernel
set_option maxRecDepth 20000 in
theorem dX6_init_33 : decode cX6_init 33 = .ok (.aload_n 0, 1) := by decide +kernel
set_option maxRecDepth 20000 in
theorem dX6_init_34 : decode cX6_init 34 = .ok (.bipush 6, 2) := by decide +kernel
set_option maxRecDepth 20000 in
theorem dX6_init_36 : decode cX6_init 36 = .ok (.newarray .int, 2) := by decide +kernel
set_option maxRecDepth 20000 in
theorem dX6_init_38 : decode cX6_init 38 = .ok (.putfield 25, 3) := by decide +kernel
set_option maxRecDepth 20000 in
theorem dX6_init_41 : decode cX6_init 41 = .ok (.return_, 1) := by decide +kernel
set_option maxRecDepth 20000 in
theorem dX6_copyFrom_0 : decode cX6_copyFrom 0 = .ok (.aload_n 1, 1) := by decide +kernel
set_option maxRecDepth 20000 in
theorem dX6_copyFrom_1 : decode cX6_copyFrom 1 = .ok (.getfield 9, 3) := by decide +kernel
set_option maxRecDepth 20000 in
theorem dX6_copyFrom_4 : decode cX6_copyFrom 4 = .ok (.iconst 0, 1) := by decide +kernel
set_option maxRecDepth 20000 in
theorem dX6_copyFrom_5 : decode cX6_copyFrom 5 = .ok (.aload_n 0, 1) := by decide +kernel
set_option maxRecDepth 20000 in
theorem dX6_copyFrom_6 : decode cX6_copyFrom 6 = .ok (.getfield 9, 3) := by decide +kernel
set_option maxRecDepth 20000 in
theorem dX6_copyFrom_9 : decode cX6_copyFrom 9 = .ok (.iconst 0, 1) := by decide +kernel
set_option maxRecDepth 20000 in
theorem dX6_copyFrom_10 : decode cX6_copyFrom 10 = .ok (.bipush 6, 2) := by decide +kernel
set_option maxRecDepth 20000 in
theorem dX6_copyFrom_12 : decode cX6_copyFrom 12 = .ok (.invokestatic 28, 3) := by decide +kernel
set_option maxRecDepth 20000 in
theorem dX6_copyFrom_15 : decode cX6_copyFrom 15 = .ok (.aload_n 1, 1) := by decide +kernel
set_option maxRecDepth 20000 in
theorem dX6_copyFrom_16 : decode cX6_copyFrom 16 = .ok (.getfield 15, 3) := by decide +kernel
set_option maxRecDepth 20000 in
theorem dX6_copyFrom_19 : decode cX6_copyFrom 19 = .ok (.iconst 0, 1) := by decide +kernel
set_option maxRecDepth 20000 in
theorem dX6_copyFrom_20 : decode cX6_copyFrom 20 = .ok (.aload_n 0, 1) := by decide +kernel
set_option maxRecDepth 20000 in
theorem dX6_copyFrom_21 : decode cX6_copyFrom 21 = .ok (.getfield 15, 3) := by decide +kernel
set_option maxRecDepth 20000 in
theorem dX6_copyFrom_24 : decode cX6_copyFrom 24 = .ok (.iconst 0, 1) := by decide +kernel
set_option maxRecDepth 20000 in
theorem dX6_copyFrom_25 : decode cX6_copyFrom 25 = .ok (.bipush 6, 2) := by decide +kernel
set_option maxRecDepth 20000 in
theorem dX6_copyFrom_27 : decode cX6_copyFrom 27 = .ok (.invokestatic 28, 3) := by decide +kernel
set_option maxRecDepth 20000 in
theorem dX6_copyFrom_30 : decode cX6_copyFrom 30 = .ok (.aload_n 1, 1) := by decide +kernel
set_option maxRecDepth 20000 in
theorem dX6_copyFrom_31 : decode cX6_copyFrom 31 = .ok (.getfield 18, 3) := by decide +kernel
set_option maxRecDepth 20000 in
theorem dX6_copyFrom_34 : decode cX6_copyFrom 34 = .ok (.iconst 0, 1) := by decide +kernel
set_option maxRecDepth 20000 in
theorem dX6_copyFrom_35 : decode cX6_copyFrom 35 = .ok (.aload_n 0, 1) := by decide +kernel
set_option maxRecDepth 20000 in
theorem dX6_copyFrom_36 : decode cX6_copyFrom 36 = .ok (.getfield 18, 3) := by decide +kernel
set_option maxRecDepth 20000 in
theorem dX6_copyFrom_39 : decode cX6_copyFrom 39 = .ok (.iconst 0, 1) := by decide +kernel
set_option maxRecDepth 20000 in
theorem dX6_copyFrom_40 : decode cX6_copyFrom 40 = .ok (.bipush 6, 2) := by decide +kernel
set_option maxRecDepth 20000 in
theorem dX6_copyFrom_42 : decode cX6_copyFrom 42 = .ok (.invokestatic 28, 3) := by decide +kernel
set_option maxRecDepth 20000 in
theorem dX6_copyFrom_45 : decode cX6_copyFrom 45 = .ok (.return_, 1) := by decide +kernel
set_option maxRecDepth 20000 in
theorem dX6_settle_0 : decode cX6_settle 0 = .ok (.aload_n 0, 1) := by decide +kernel
set_option maxRecDepth 20000 in
theorem dX6_settle_1 : decode cX6_settle 1 = .ok (.getfield 18, 3) := by decide +kernel
set_option maxRecDepth 20000 in
theorem dX6_settle_4 : decode cX6_settle 4 = .ok (.iconst 0, 1) := by decide +kernel
set_option maxRecDepth 20000 in
theorem dX6_settle_5 : decode cX6_settle 5 = .ok (.aload_n 0, 1) := by decide +kernel
set_option maxRecDepth 20000 in
theorem dX6_settle_6 : decode cX6_settle 6 = .ok (.getfield 25, 3) := by decide +kernel
set_option maxRecDepth 20000 in
theorem dX6_settle_9 : decode cX6_settle 9 = .ok (.iconst 0, 1) := by decide +kernel
set_option maxRecDepth 20000 in
theorem dX6_settle_10 : decode cX6_settle 10 = .ok (.bipush 6, 2) := by decide +kernel
set_option maxRecDepth 20000 in
theorem dX6_settle_12 : decode cX6_settle 12 = .ok (.invokestatic 28, 3) := by decide +kernel
set_option maxRecDepth 20000 in
theorem dX6_settle_15 : decode cX6_settle 15 = .ok (.aload_n 0, 1) := by decide +kernel
set_option maxRecDepth 20000 in
theorem dX6_settle_16 : decode cX6_settle 16 = .ok (.iconst (-1), 1) := by decide +kernel
set_option maxRecDepth 20000 in
theorem dX6_settle_17 : decode cX6_settle 17 = .ok (.putfield 21, 3) := by decide +kernel
set_option maxRecDepth 20000 in
theorem dX6_settle_20 : decode cX6_settle 20 = .ok (.iconst 1, 1) := by decide +kernel
set_option maxRecDepth 20000 in
theorem dX6_settle_21 : decode cX6_settle 21 = .ok (.istore_n 1, 1) := by decide +kernel
set_option maxRecDepth 20000 in
theorem dX6_settle_22 : decode cX6_settle 22 = .ok (.iload_n 1, 1) := by decide +kernel
set_option maxRecDepth 20000 in
theorem dX6_settle_23 : decode cX6_settle 23 = .ok (.bipush 20, 2) := by decide +kernel
set_option maxRecDepth 20000 in
theorem dX6_settle_25 : decode cX6_settle 25 = .ok (.if_icmp .gt 22, 3) := by decide +kernel
set_option maxRecDepth 20000 in
theorem dX6_settle_28 : decode cX6_settle 28 = .ok (.aload_n 0, 1) := by decide +kernel
set_option maxRecDepth 20000 in
theorem dX6_settle_29 : decode cX6_settle 29 = .ok (.invokevirtual 34, 3) := by decide +kernel
set_option maxRecDepth 20000 in
theorem dX6_settle_32 : decode cX6_settle 32 = .ok (.ifCond .ne 9, 3) := by decide +kernel
set_option maxRecDepth 20000 in
theorem dX6_settle_35 : decode cX6_settle 35 = .ok (.aload_n 0, 1) := by decide +kernel
set_option maxRecDepth 20000 in
theorem dX6_settle_36 : decode cX6_settle 36 = .ok (.iload_n 1, 1) := by decide +kernel
set_option maxRecDepth 20000 in
theorem dX6_settle_37 : decode cX6_settle 37 = .ok (.putfield 21, 3) := by decide +kernel
set_option maxRecDepth 20000 in
theorem dX6_settle_40 : decode cX6_settle 40 = .ok (.return_, 1) := by decide +kernel
set_option maxRecDepth 20000 in
theorem dX6_settle_41 : decode cX6_settle 41 = .ok (.iinc 1 1, 3) := by decide +kernel
set_option maxRecDepth 20000 in
theorem dX6_settle_44 : decode cX6_settle 44 = .ok (.goto (-22), 3) := by decide +kernel
set_option maxRecDepth 20000 in
theorem dX6_settle_47 : decode cX6_settle 47 = .ok (.return_, 1) := by decide +kernel
set_option maxRecDepth 20000 in
theorem dX6_changesInARound_0 : decode cX6_changesInARound 0 = .ok (.iconst 0, 1) := by decide +kernel
set_option maxRecDepth 20000 in
theorem dX6_changesInARound_1 : decode cX6_changesInARound 1 = .ok (.istore_n 1, 1) := by decide +kernel
set_option maxRecDepth 20000 in
theorem dX6_changesInARound_2 : decode cX6_changesInARound 2 = .ok (.iconst 0, 1) := by decide +kernel
set_option maxRecDepth 20000 in
theorem dX6_changesInARound_3 : decode cX6_changesInARound 3 = .ok (.istore_n 2, 1) := by decide +kernel
set_option maxRecDepth 20000 in
theorem dX6_changesInARound_4 : decode cX6_changesInARound 4 = .ok (.iload_n 2, 1) := by decide +kernel
set_option maxRecDepth 20000 in
theorem dX6_changesInARound_5 : decode cX6_changesInARound 5 = .ok (.bipush 6, 2) := by decide +kernel
set_option maxRecDepth 20000 in
theorem dX6_changesInARound_7 : decode cX6_changesInARound 7 = .ok (.if_icmp .ge 94, 3) := by decide +kernel
set_option maxRecDepth 20000 in
theorem dX6_changesInARound_10 : decode cX6_changesInARound 10 = .ok (.aload_n 0, 1) := by decide +kernel
set_option maxRecDepth 20000 in
theorem dX6_changesInARound_11 : decode cX6_changesInARound 11 = .ok (.invokevirtual 38, 3) := by decide +kernel
set_option maxRecDepth 20000 in
theorem dX6_changesInARound_14 : decode cX6_changesInARound 14 = .ok (.iload_n 2, 1) := by decide +kernel
set_option maxRecDepth 20000 in
theorem dX6_changesInARound_15 : decode cX6_changesInARound 15 = .ok (.if_icmp .ge 7, 3) := by decide +kernel
set_option maxRecDepth 20000 in
theorem dX6_changesInARound_18 : decode cX6_changesInARound 18 = .ok (.iconst 0, 1) := by decide +kernel
set_option maxRecDepth 20000 in
theorem dX6_changesInARound_19 : decode cX6_changesInARound 19 = .ok (.goto 9, 3) := by decide +kernel
set_option maxRecDepth 20000 in
theorem dX6_changesInARound_22 : decode cX6_changesInARound 22 = .ok (.aload_n 0, 1) := by decide +kernel
set_option maxRecDepth 20000 in
theorem dX6_changesInARound_23 : decode cX6_changesInARound 23 = .ok (.getfield 15, 3) := by decide +kernel
set_option maxRecDepth 20000 in
theorem dX6_changesInARound_26 : decode cX6_changesInARound 26 = .ok (.iload_n 2, 1) := by decide +kernel
set_option maxRecDepth 20000 in
theorem dX6_changesInARound_27 : decode cX6_changesInARound 27 = .ok (.iaload, 1) := by decide +kernel
set_option maxRecDepth 20000 in
theorem dX6_changesInARound_28 : decode cX6_changesInARound 28 = .ok (.istore_n 3, 1) := by decide +kernel
set_option maxRecDepth 20000 in
theorem dX6_changesInARound_29 : decode cX6_changesInARound 29 = .ok (.aload_n 0, 1) := by decide +kernel
set_option maxRecDepth 20000 in
theorem dX6_changesInARound_30 : decode cX6_changesInARound 30 = .ok (.getfield 25, 3) := by decide +kernel
set_option maxRecDepth 20000 in
theorem dX6_changesInARound_33 : decode cX6_changesInARound 33 = .ok (.iload_n 2, 1) := by decide +kernel
set_option maxRecDepth 20000 in
theorem dX6_changesInARound_34 : decode cX6_changesInARound 34 = .ok (.iaload, 1) := by decide +kernel
set_option maxRecDepth 20000 in
theorem dX6_changesInARound_35 : decode cX6_changesInARound 35 = .ok (.iconst 1, 1) := by decide +kernel
set_option maxRecDepth 20000 in
theorem dX6_changesInARound_36 : decode cX6_changesInARound 36 = .ok (.if_icmp .ne 21, 3) := by decide +kernel
set_option maxRecDepth 20000 in
theorem dX6_changesInARound_39 : decode cX6_changesInARound 39 = .ok (.iload_n 3, 1) := by decide +kernel
set_option maxRecDepth 20000 in
theorem dX6_changesInARound_40 : decode cX6_changesInARound 40 = .ok (.aload_n 0, 1) := by decide +kernel
set_option maxRecDepth 20000 in
theorem dX6_changesInARound_41 : decode cX6_changesInARound 41 = .ok (.getfield 9, 3) := by decide +kernel
set_option maxRecDepth 20000 in
theorem dX6_changesInARound_44 : decode cX6_changesInARound 44 = .ok (.iload_n 2, 1) := by decide +kernel
set_option maxRecDepth 20000 in
theorem dX6_changesInARound_45 : decode cX6_changesInARound 45 = .ok (.iaload, 1) := by decide +kernel
set_option maxRecDepth 20000 in
theorem dX6_changesInARound_46 : decode cX6_changesInARound 46 = .ok (.if_icmp .ge 7, 3) := by decide +kernel
set_option maxRecDepth 20000 in
theorem dX6_changesInARound_49 : decode cX6_changesInARound 49 = .ok (.iconst 1, 1) := by decide +kernel
set_option maxRecDepth 20000 in
theorem dX6_changesInARound_50 : decode cX6_changesInARound 50 = .ok (.goto 22, 3) := by decide +kernel
set_option maxRecDepth 20000 in
theorem dX6_changesInARound_53 : decode cX6_changesInARound 53 = .ok (.iconst 0, 1) := by decide +kernel
set_option maxRecDepth 20000 in
theorem dX6_changesInARound_54 : decode cX6_changesInARound 54 = .ok (.goto 18, 3) := by decide +kernel
set_option maxRecDepth 20000 in
theorem dX6_changesInARound_57 : decode cX6_changesInARound 57 = .ok (.aload_n 0, 1) := by decide +kernel
set_option maxRecDepth 20000 in
theorem dX6_changesInARound_58 : decode cX6_changesInARound 58 = .ok (.getfield 9, 3) := by decide +kernel
set_option maxRecDepth 20000 in
theorem dX6_changesInARound_61 : decode cX6_changesInARound 61 = .ok (.iload_n 2, 1) := by decide +kernel
set_option maxRecDepth 20000 in
theorem dX6_changesInARound_62 : decode cX6_changesInARound 62 = .ok (.iaload, 1) := by decide +kernel
set_option maxRecDepth 20000 in
theorem dX6_changesInARound_63 : decode cX6_changesInARound 63 = .ok (.iload_n 3, 1) := by decide +kernel
set_option maxRecDepth 20000 in
theorem dX6_changesInARound_64 : decode cX6_changesInARound 64 = .ok (.if_icmp .ge 7, 3) := by decide +kernel
set_option maxRecDepth 20000 in
theorem dX6_changesInARound_67 : decode cX6_changesInARound 67 = .ok (.iconst 1, 1) := by decide +kernel
set_option maxRecDepth 20000 in
theorem dX6_changesInARound_68 : decode cX6_changesInARound 68 = .ok (.goto 4, 3) := by decide +kernel
set_option maxRecDepth 20000 in
theorem dX6_changesInARound_71 : decode cX6_changesInARound 71 = .ok (.iconst 0, 1) := by decide +kernel
set_option maxRecDepth 20000 in
theorem dX6_changesInARound_72 : decode cX6_changesInARound 72 = .ok (.istore 4, 2) := by decide +kernel
set_option maxRecDepth 20000 in
theorem dX6_changesInARound_74 : decode cX6_changesInARound 74 = .ok (.iload 4, 2) := by decide +kernel
set_option maxRecDepth 20000 in
theorem dX6_changesInARound_76 : decode cX6_changesInARound 76 = .ok (.ifCond .eq 19, 3) := by decide +kernel
set_option maxRecDepth 20000 in
theorem dX6_changesInARound_79 : decode cX6_changesInARound 79 = .ok (.aload_n 0, 1) := by decide +kernel
set_option maxRecDepth 20000 in
theorem dX6_changesInARound_80 : decode cX6_changesInARound 80 = .ok (.getfield 25, 3) := by decide +kernel
set_option maxRecDepth 20000 in
theorem dX6_changesInARound_83 : decode cX6_changesInARound 83 = .ok (.iload_n 2, 1) := by decide +kernel
set_option maxRecDepth 20000 in
theorem dX6_changesInARound_84 : decode cX6_changesInARound 84 = .ok (.iconst 1, 1) := by decide +kernel
set_option maxRecDepth 20000 in
theorem dX6_changesInARound_85 : decode cX6_changesInARound 85 = .ok (.aload_n 0, 1) := by decide +kernel
set_option maxRecDepth 20000 in
theorem dX6_changesInARound_86 : decode cX6_changesInARound 86 = .ok (.getfield 25, 3) := by decide +kernel
set_option maxRecDepth 20000 in
theorem dX6_changesInARound_89 : decode cX6_changesInARound 89 = .ok (.iload_n 2, 1) := by decide +kernel
set_option maxRecDepth 20000 in
theorem dX6_changesInARound_90 : decode cX6_changesInARound 90 = .ok (.iaload, 1) := by decide +kernel
set_option maxRecDepth 20000 in
theorem dX6_changesInARound_91 : decode cX6_changesInARound 91 = .ok (.isub, 1) := by decide +kernel
set_option maxRecDepth 20000 in
theorem dX6_changesInARound_92 : decode cX6_changesInARound 92 = .ok (.iastore, 1) := by decide +kernel
set_option maxRecDepth 20000 in
theorem dX6_changesInARound_93 : decode cX6_changesInARound 93 = .ok (.iconst 1, 1) := by decide +kernel
set_option maxRecDepth 20000 in
theorem dX6_changesInARound_94 : decode cX6_changesInARound 94 = .ok (.istore_n 1, 1) := by decide +kernel
set_option maxRecDepth 20000 in
theorem dX6_changesInARound_95 : decode cX6_changesInARound 95 = .ok (.iinc 2 1, 3) := by decide +kernel
set_option maxRecDepth 20000 in
theorem dX6_changesInARound_98 : decode cX6_changesInARound 98 = .ok (.goto (-94), 3) := by decide +kernel
set_option maxRecDepth 20000 in
theorem dX6_changesInARound_101 : decode cX6_changesInARound 101 = .ok (.iload_n 1, 1) := by decide +kernel
set_option maxRecDepth 20000 in
theorem dX6_changesInARound_102 : decode cX6_changesInARound 102 = .ok (.ireturn, 1) := by decide +kernel
set_option maxRecDepth 20000 in
theorem dX6_firstOpen_0 : decode cX6_firstOpen 0 = .ok (.iconst 0, 1) := by decide +kernel
set_option maxRecDepth 20000 in
theorem dX6_firstOpen_1 : decode cX6_firstOpen 1 = .ok (.istore_n 1, 1) := by decide +kernel
set_option maxRecDepth 20000 in
theorem dX6_firstOpen_2 : decode cX6_firstOpen 2 = .ok (.iload_n 1, 1) := by decide +kernel
set_option maxRecDepth 20000 in
theorem dX6_firstOpen_3 : decode cX6_firstOpen 3 = .ok (.bipush 6, 2) := by decide +kernel
set_option maxRecDepth 20000 in
theorem dX6_firstOpen_5 : decode cX6_firstOpen 5 = .ok (.if_icmp .ge 20, 3) := by decide +kernel
set_option maxRecDepth 20000 in
theorem dX6_firstOpen_8 : decode cX6_firstOpen 8 = .ok (.aload_n 0, 1) := by decide +kernel
set_option maxRecDepth 20000 in
theorem dX6_firstOpen_9 : decode cX6_firstOpen 9 = .ok (.getfield 25, 3) := by decide +kernel
set_option maxRecDepth 20000 in
theorem dX6_firstOpen_12 : decode cX6_firstOpen 12 = .ok (.iload_n 1, 1) := by decide +kernel
set_option maxRecDepth 20000 in
theorem dX6_firstOpen_13 : decode cX6_firstOpen 13 = .ok (.iaload, 1) := by decide +kernel
set_option maxRecDepth 20000 in
theorem dX6_firstOpen_14 : decode cX6_firstOpen 14 = .ok (.ifCond .ne 5, 3) := by decide +kernel
set_option maxRecDepth 20000 in
theorem dX6_firstOpen_17 : decode cX6_firstOpen 17 = .ok (.iload_n 1, 1) := by decide +kernel
set_option maxRecDepth 20000 in
theorem dX6_firstOpen_18 : decode cX6_firstOpen 18 = .ok (.ireturn, 1) := by decide +kernel
set_option maxRecDepth 20000 in
theorem dX6_firstOpen_19 : decode cX6_firstOpen 19 = .ok (.iinc 1 1, 3) := by decide +kernel
set_option maxRecDepth 20000 in
theorem dX6_firstOpen_22 : decode cX6_firstOpen 22 = .ok (.goto (-20), 3) := by decide +kernel
set_option maxRecDepth 20000 in
theorem dX6_firstOpen_25 : decode cX6_firstOpen 25 = .ok (.bipush 6, 2) := by decide +kernel
set_option maxRecDepth 20000 in
theorem dX6_firstOpen_27 : decode cX6_firstOpen 27 = .ok (.ireturn, 1) := by decide +kernel
set_option maxRecDepth 20000 in
theorem dX6_shutThen_0 : decode cX6_shutThen 0 = .ok (.iconst 0, 1) := by decide +kernel
set_option maxRecDepth 20000 in
theorem dX6_shutThen_1 : decode cX6_shutThen 1 = .ok (.istore_n 1, 1) := by decide +kernel
set_option maxRecDepth 20000 in
theorem dX6_shutThen_2 : decode cX6_shutThen 2 = .ok (.iconst 0, 1) := by decide +kernel
set_option maxRecDepth 20000 in
theorem dX6_shutThen_3 : decode cX6_shutThen 3 = .ok (.istore_n 2, 1) := by decide +kernel
set_option maxRecDepth 20000 in
theorem dX6_shutThen_4 : decode cX6_shutThen 4 = .ok (.iload_n 2, 1) := by decide +kernel
set_option maxRecDepth 20000 in
theorem dX6_shutThen_5 : decode cX6_shutThen 5 = .ok (.bipush 6, 2) := by decide +kernel
set_option maxRecDepth 20000 in
theorem dX6_shutThen_7 : decode cX6_shutThen 7 = .ok (.if_icmp .ge 20, 3) := by decide +kernel
set_option maxRecDepth 20000 in
theorem dX6_shutThen_10 : decode cX6_shutThen 10 = .ok (.iload_n 1, 1) := by decide +kernel
set_option maxRecDepth 20000 in
theorem dX6_shutThen_11 : decode cX6_shutThen 11 = .ok (.aload_n 0, 1) := by decide +kernel
set_option maxRecDepth 20000 in
theorem dX6_shutThen_12 : decode cX6_shutThen 12 = .ok (.getfield 25, 3) := by decide +kernel
set_option maxRecDepth 20000 in
theorem dX6_shutThen_15 : decode cX6_shutThen 15 = .ok (.iload_n 2, 1) := by decide +kernel
set_option maxRecDepth 20000 in
theorem dX6_shutThen_16 : decode cX6_shutThen 16 = .ok (.iaload, 1) := by decide +kernel
set_option maxRecDepth 20000 in
theorem dX6_shutThen_17 : decode cX6_shutThen 17 = .ok (.iload_n 2, 1) := by decide +kernel
set_option maxRecDepth 20000 in
theorem dX6_shutThen_18 : decode cX6_shutThen 18 = .ok (.ishl, 1) := by decide +kernel
set_option maxRecDepth 20000 in
theorem dX6_shutThen_19 : decode cX6_shutThen 19 = .ok (.ior, 1) := by decide +kernel
set_option maxRecDepth 20000 in
theorem dX6_shutThen_20 : decode cX6_shutThen 20 = .ok (.istore_n 1, 1) := by decide +kernel
set_option maxRecDepth 20000 in
theorem dX6_shutThen_21 : decode cX6_shutThen 21 = .ok (.iinc 2 1, 3) := by decide +kernel
set_option maxRecDepth 20000 in
theorem dX6_shutThen_24 : decode cX6_shutThen 24 = .ok (.goto (-20), 3) := by decide +kernel
set_option maxRecDepth 20000 in
theorem dX6_shutThen_27 : decode cX6_shutThen 27 = .ok (.iload_n 1, 1) := by decide +kernel
set_option maxRecDepth 20000 in
theorem dX6_shutThen_28 : decode cX6_shutThen 28 = .ok (.ireturn, 1) := by decide +kernel
set_option maxRecDepth 20000 in
theorem dX7_init_0 : decode cX7_init 0 = .ok (.aload_n 0, 1) := by decide +kernel
set_option maxRecDepth 20000 in
theorem dX7_init_1 : decode cX7_init 1 = .ok (.invokespecial 3, 3) := by decide +kernel
set_option maxRecDepth 20000 in
theorem dX7_init_4 : decode cX7_init 4 = .ok (.aload_n 0, 1) := by decide +kernel
set_option maxRecDepth 20000 in
theorem dX7_init_5 : decode cX7_init 5 = .ok (.bipush 40, 2) := by decide +kernel
set_option maxRecDepth 20000 in
theorem dX7_init_7 : decode cX7_init 7 = .ok (.newarray .int, 2) := by decide +kernel
set_option maxRecDepth 20000 in
theorem dX7_init_9 : decode cX7_init 9 = .ok (.putfield 9, 3) := by decide +kernel
set_option maxRecDepth 20000 in
theorem dX7_init_12 : decode cX7_init 12 = .ok (.aload_n 0, 1) := by decide +kernel
set_option maxRecDepth 20000 in
theorem dX7_init_13 : decode cX7_init 13 = .ok (.iconst 0, 1) := by decide +kernel
set_option maxRecDepth 20000 in
theorem dX7_init_14 : decode cX7_init 14 = .ok (.putfield 15, 3) := by decide +kernel
set_option maxRecDepth 20000 in
theorem dX7_init_17 : decode cX7_init 17 = .ok (.aload_n 0, 1) := by decide +kernel
set_option maxRecDepth 20000 in
theorem dX7_init_18 : decode cX7_init 18 = .ok (.iconst 0, 1) := by decide +kernel
set_option maxRecDepth 20000 in
theorem dX7_init_19 : decode cX7_init 19 = .ok (.putfield 19, 3) := by decide +kernel
set_option maxRecDepth 20000 in
theorem dX7_init_22 : decode cX7_init 22 = .ok (.aload_n 0, 1) := by decide +kernel
set_option maxRecDepth 20000 in
theorem dX7_init_23 : decode cX7_init 23 = .ok (.iconst 0, 1) := by decide +kernel
set_option maxRecDepth 20000 in
theorem dX7_init_24 : decode cX7_init 24 = .ok (.putfield 22, 3) := by decide +kernel
set_option maxRecDepth 20000 in
theorem dX7_init_27 : decode cX7_init 27 = .ok (.aload_n 0, 1) := by decide +kernel
set_option maxRecDepth 20000 in
theorem dX7_init_28 : decode cX7_init 28 = .ok (.iconst 0, 1) := by decide +kernel
set_option maxRecDepth 20000 in
theorem dX7_init_29 : decode cX7_init 29 = .ok (.putfield 25, 3) := by decide +kernel
set_option maxRecDepth 20000 in
theorem dX7_init_32 : decode cX7_init 32 = .ok (.return_, 1) := by decide +kernel
set_option maxRecDepth 20000 in
theorem dX7_speak_0 : decode cX7_speak 0 = .ok (.aload_n 0, 1) := by decide +kernel
set_option maxRecDepth 20000 in
theorem dX7_speak_1 : decode cX7_speak 1 = .ok (.iload_n 1, 1) := by decide +kernel
set_option maxRecDepth 20000 in
theorem dX7_speak_2 : decode cX7_speak 2 = .ok (.putfield 19, 3) := by decide +kernel
set_option maxRecDepth 20000 in
theorem dX7_speak_5 : decode cX7_speak 5 = .ok (.aload_n 0, 1) := by decide +kernel
set_option maxRecDepth 20000 in
theorem dX7_speak_6 : decode cX7_speak 6 = .ok (.iload_n 2, 1) := by decide +kernel
set_option maxRecDepth 20000 in
theorem dX7_speak_7 : decode cX7_speak 7 = .ok (.putfield 22, 3) := by decide +kernel
set_option maxRecDepth 20000 in
theorem dX7_speak_10 : decode cX7_speak 10 = .ok (.aload_n 0, 1) := by decide +kernel
set_option maxRecDepth 20000 in
theorem dX7_speak_11 : decode cX7_speak 11 = .ok (.iload_n 3, 1) := by decide +kernel
set_option maxRecDepth 20000 in
theorem dX7_speak_12 : decode cX7_speak 12 = .ok (.putfield 25, 3) := by decide +kernel
set_option maxRecDepth 20000 in
theorem dX7_speak_15 : decode cX7_speak 15 = .ok (.aload_n 0, 1) := by decide +kernel
set_option maxRecDepth 20000 in
theorem dX7_speak_16 : decode cX7_speak 16 = .ok (.iconst 0, 1) := by decide +kernel
set_option maxRecDepth 20000 in
theorem dX7_speak_17 : decode cX7_speak 17 = .ok (.putfield 15, 3) := by decide +kernel
set_option maxRecDepth 20000 in
theorem dX7_speak_20 : decode cX7_speak 20 = .ok (.iload 4, 2) := by decide +kernel
set_option maxRecDepth 20000 in
theorem dX7_speak_22 : decode cX7_speak 22 = .ok (.tableswitch 53 0 2 #[26, 35, 44], 26) := by decide +kernel
set_option maxRecDepth 20000 in
theorem dX7_speak_48 : decode cX7_speak 48 = .ok (.aload_n 0, 1) := by decide +kernel
set_option maxRecDepth 20000 in
theorem dX7_speak_49 : decode cX7_speak 49 = .ok (.iload_n 1, 1) := by decide +kernel
set_option maxRecDepth 20000 in
theorem dX7_speak_50 : decode cX7_speak 50 = .ok (.iload 5, 2) := by decide +kernel
set_option maxRecDepth 20000 in
theorem dX7_speak_52 : decode cX7_speak 52 = .ok (.iconst 1, 1) := by decide +kernel
set_option maxRecDepth 20000 in
theorem dX7_speak_53 : decode cX7_speak 53 = .ok (.invokevirtual 28, 3) := by decide +kernel
set_option maxRecDepth 20000 in
theorem dX7_speak_56 : decode cX7_speak 56 = .ok (.ireturn, 1) := by decide +kernel
set_option maxRecDepth 20000 in
theorem dX7_speak_57 : decode cX7_speak 57 = .ok (.aload_n 0, 1) := by decide +kernel
set_option maxRecDepth 20000 in
theorem dX7_speak_58 : decode cX7_speak 58 = .ok (.iload_n 1, 1) := by decide +kernel
set_option maxRecDepth 20000 in
theorem dX7_speak_59 : decode cX7_speak 59 = .ok (.iload 5, 2) := by decide +kernel
set_option maxRecDepth 20000 in
theorem dX7_speak_61 : decode cX7_speak 61 = .ok (.iconst 1, 1) := by decide +kernel
set_option maxRecDepth 20000 in
theorem dX7_speak_62 : decode cX7_speak 62 = .ok (.invokevirtual 32, 3) := by decide +kernel
set_option maxRecDepth 20000 in
theorem dX7_speak_65 : decode cX7_speak 65 = .ok (.ireturn, 1) := by decide +kernel
set_option maxRecDepth 20000 in
theorem dX7_speak_66 : decode cX7_speak 66 = .ok (.aload_n 0, 1) := by decide +kernel
set_option maxRecDepth 20000 in
theorem dX7_speak_67 : decode cX7_speak 67 = .ok (.iload_n 1, 1) := by decide +kernel
set_option maxRecDepth 20000 in
theorem dX7_speak_68 : decode cX7_speak 68 = .ok (.iload 5, 2) := by decide +kernel
set_option maxRecDepth 20000 in
theorem dX7_speak_70 : decode cX7_speak 70 = .ok (.iconst 1, 1) := by decide +kernel
set_option maxRecDepth 20000 in
theorem dX7_speak_71 : decode cX7_speak 71 = .ok (.invokevirtual 35, 3) := by decide +kernel
set_option maxRecDepth 20000 in
theorem dX7_speak_74 : decode cX7_speak 74 = .ok (.ireturn, 1) := by decide +kernel
set_option maxRecDepth 20000 in
theorem dX7_speak_75 : decode cX7_speak 75 = .ok (.aload_n 0, 1) := by decide +kernel
set_option maxRecDepth 20000 in
theorem dX7_speak_76 : decode cX7_speak 76 = .ok (.iload_n 1, 1) := by decide +kernel
set_option maxRecDepth 20000 in
theorem dX7_speak_77 : decode cX7_speak 77 = .ok (.iload 5, 2) := by decide +kernel
set_option maxRecDepth 20000 in
theorem dX7_speak_79 : decode cX7_speak 79 = .ok (.iconst 1, 1) := by decide +kernel
set_option maxRecDepth 20000 in
theorem dX7_speak_80 : decode cX7_speak 80 = .ok (.invokevirtual 38, 3) := by decide +kernel
set_option maxRecDepth 20000 in
theorem dX7_speak_83 : decode cX7_speak 83 = .ok (.ireturn, 1) := by decide +kernel
set_option maxRecDepth 20000 in
theorem dX7_begin_0 : decode cX7_begin 0 = .ok (.aload_n 0, 1) := by decide +kernel
set_option maxRecDepth 20000 in
theorem dX7_begin_1 : decode cX7_begin 1 = .ok (.getfield 15, 3) := by decide +kernel
set_option maxRecDepth 20000 in
theorem dX7_begin_4 : decode cX7_begin 4 = .ok (.bipush 40, 2) := by decide +kernel
set_option maxRecDepth 20000 in
theorem dX7_begin_6 : decode cX7_begin 6 = .ok (.if_icmp .ge 23, 3) := by decide +kernel
set_option maxRecDepth 20000 in
theorem dX7_begin_9 : decode cX7_begin 9 = .ok (.aload_n 0, 1) := by decide +kernel
set_option maxRecDepth 20000 in
theorem dX7_begin_10 : decode cX7_begin 10 = .ok (.getfield 9, 3) := by decide +kernel
set_option maxRecDepth 20000 in
theorem dX7_begin_13 : decode cX7_begin 13 = .ok (.aload_n 0, 1) := by decide +kernel
set_option maxRecDepth 20000 in
theorem dX7_begin_14 : decode cX7_begin 14 = .ok (.getfield 15, 3) := by decide +kernel
set_option maxRecDepth 20000 in
theorem dX7_begin_17 : decode cX7_begin 17 = .ok (.iload_n 1, 1) := by decide +kernel
set_option maxRecDepth 20000 in
theorem dX7_begin_18 : decode cX7_begin 18 = .ok (.iastore, 1) := by decide +kernel
set_option maxRecDepth 20000 in
theorem dX7_begin_19 : decode cX7_begin 19 = .ok (.aload_n 0, 1) := by decide +kernel
set_option maxRecDepth 20000 in
theorem dX7_begin_20 : decode cX7_begin 20 = .ok (.dup, 1) := by decide +kernel
set_option maxRecDepth 20000 in
theorem dX7_begin_21 : decode cX7_begin 21 = .ok (.getfield 15, 3) := by decide +kernel
set_option maxRecDepth 20000 in
theorem dX7_begin_24 : decode cX7_begin 24 = .ok (.iconst 1, 1) := by decide +kernel
set_option maxRecDepth 20000 in
theorem dX7_begin_25 : decode cX7_begin 25 = .ok (.iadd, 1) := by decide +kernel
set_option maxRecDepth 20000 in
theorem dX7_begin_26 : decode cX7_begin 26 = .ok (.putfield 15, 3) := by decide +kernel
set_option maxRecDepth 20000 in
theorem dX7_begin_29 : decode cX7_begin 29 = .ok (.return_, 1) := by decide +kernel
set_option maxRecDepth 20000 in
theorem dX7_tries_0 : decode cX7_tries 0 = .ok (.iload_n 3, 1) := by decide +kernel
set_option maxRecDepth 20000 in
theorem dX7_tries_1 : decode cX7_tries 1 = .ok (.bipush 40, 2) := by decide +kernel
set_option maxRecDepth 20000 in
theorem dX7_tries_3 : decode cX7_tries 3 = .ok (.if_icmp .le 5, 3) := by decide +kernel
set_option maxRecDepth 20000 in
theorem dX7_tries_6 : decode cX7_tries 6 = .ok (.iconst 0, 1) := by decide +kernel
set_option maxRecDepth 20000 in
theorem dX7_tries_7 : decode cX7_tries 7 = .ok (.ireturn, 1) := by decide +kernel
set_option maxRecDepth 20000 in
theorem dX7_tries_8 : decode cX7_tries 8 = .ok (.iload_n 1, 1) := by decide +kernel
set_option maxRecDepth 20000 in
theorem dX7_tries_9 : decode cX7_tries 9 = .ok (.lookupswitch 63 #[(2, 45), (4, 27)], 27) := by decide +kernel
set_option maxRecDepth 20000 in
theorem dX7_tries_36 : decode cX7_tries 36 = .ok (.aload_n 0, 1) := by decide +kernel
set_option maxRecDepth 20000 in
theorem dX7_tries_37 : decode cX7_tries 37 = .ok (.bipush 50, 2) := by decide +kernel
set_option maxRecDepth 20000 in
theorem dX7_tries_39 : decode cX7_tries 39 = .ok (.invokevirtual 41, 3) := by decide +kernel
set_option maxRecDepth 20000 in
theorem dX7_tries_42 : decode cX7_tries 42 = .ok (.aload_n 0, 1) := by decide +kernel
set_option maxRecDepth 20000 in
theorem dX7_tries_43 : decode cX7_tries 43 = .ok (.iconst 2, 1) := by decide +kernel
set_option maxRecDepth 20000 in
theorem dX7_tries_44 : decode cX7_tries 44 = .ok (.iload_n 2, 1) := by decide +kernel
set_option maxRecDepth 20000 in
theorem dX7_tries_45 : decode cX7_tries 45 = .ok (.iconst 1, 1) := by decide +kernel
set_option maxRecDepth 20000 in
theorem dX7_tries_46 : decode cX7_tries 46 = .ok (.iadd, 1) := by decide +kernel
set_option maxRecDepth 20000 in
theorem dX7_tries_47 : decode cX7_tries 47 = .ok (.iload_n 3, 1) := by decide +kernel
set_option maxRecDepth 20000 in
theorem dX7_tries_48 : decode cX7_tries 48 = .ok (.iconst 1, 1) := by decide +kernel
set_option maxRecDepth 20000 in
theorem dX7_tries_49 : decode cX7_tries 49 = .ok (.iadd, 1) := by decide +kernel
set_option maxRecDepth 20000 in
theorem dX7_tries_50 : decode cX7_tries 50 = .ok (.invokevirtual 28, 3) := by decide +kernel
set_option maxRecDepth 20000 in
theorem dX7_tries_53 : decode cX7_tries 53 = .ok (.ireturn, 1) := by decide +kernel
set_option maxRecDepth 20000 in
theorem dX7_tries_54 : decode cX7_tries 54 = .ok (.aload_n 0, 1) := by decide +kernel
set_option maxRecDepth 20000 in
theorem dX7_tries_55 : decode cX7_tries 55 = .ok (.bipush 30, 2) := by decide +kernel
set_option maxRecDepth 20000 in
theorem dX7_tries_57 : decode cX7_tries 57 = .ok (.invokevirtual 41, 3) := by decide +kernel
set_option maxRecDepth 20000 in
theorem dX7_tries_60 : decode cX7_tries 60 = .ok (.aload_n 0, 1) := by decide +kernel
set_option maxRecDepth 20000 in
theorem dX7_tries_61 : decode cX7_tries 61 = .ok (.iconst 0, 1) := by decide +kernel
set_option maxRecDepth 20000 in
theorem dX7_tries_62 : decode cX7_tries 62 = .ok (.iload_n 2, 1) := by decide +kernel
set_option maxRecDepth 20000 in
theorem dX7_tries_63 : decode cX7_tries 63 = .ok (.iload_n 3, 1) := by decide +kernel
set_option maxRecDepth 20000 in
theorem dX7_tries_64 : decode cX7_tries 64 = .ok (.iconst 1, 1) := by decide +kernel
set_option maxRecDepth 20000 in
theorem dX7_tries_65 : decode cX7_tries 65 = .ok (.iadd, 1) := by decide +kernel
set_option maxRecDepth 20000 in
theorem dX7_tries_66 : decode cX7_tries 66 = .ok (.invokevirtual 28, 3) := by decide +kernel
set_option maxRecDepth 20000 in
theorem dX7_tries_69 : decode cX7_tries 69 = .ok (.iconst 3, 1) := by decide +kernel
set_option maxRecDepth 20000 in
theorem dX7_tries_70 : decode cX7_tries 70 = .ok (.imul, 1) := by decide +kernel
set_option maxRecDepth 20000 in
theorem dX7_tries_71 : decode cX7_tries 71 = .ok (.ireturn, 1) := by decide +kernel
set_option maxRecDepth 20000 in
theorem dX7_tries_72 : decode cX7_tries 72 = .ok (.aload_n 0, 1) := by decide +kernel
set_option maxRecDepth 20000 in
theorem dX7_tries_73 : decode cX7_tries 73 = .ok (.bipush 10, 2) := by decide +kernel
set_option maxRecDepth 20000 in
theorem dX7_tries_75 : decode cX7_tries 75 = .ok (.invokevirtual 41, 3) := by decide +kernel
set_option maxRecDepth 20000 in
theorem dX7_tries_78 : decode cX7_tries 78 = .ok (.iload_n 2, 1) := by decide +kernel
set_option maxRecDepth 20000 in
theorem dX7_tries_79 : decode cX7_tries 79 = .ok (.aload_n 0, 1) := by decide +kernel
set_option maxRecDepth 20000 in
theorem dX7_tries_80 : decode cX7_tries 80 = .ok (.getfield 22, 3) := by decide +kernel
set_option maxRecDepth 20000 in
theorem dX7_tries_83 : decode cX7_tries 83 = .ok (.iadd, 1) := by decide +kernel
set_option maxRecDepth 20000 in
theorem dX7_tries_84 : decode cX7_tries 84 = .ok (.ireturn, 1) := by decide +kernel
set_option maxRecDepth 20000 in
theorem dX7_fears_0 : decode cX7_fears 0 = .ok (.iload_n 3, 1) := by decide +kernel
set_option maxRecDepth 20000 in
theorem dX7_fears_1 : decode cX7_fears 1 = .ok (.bipush 40, 2) := by decide +kernel
set_option maxRecDepth 20000 in
theorem dX7_fears_3 : decode cX7_fears 3 = .ok (.if_icmp .le 5, 3) := by decide +kernel
set_option maxRecDepth 20000 in
theorem dX7_fears_6 : decode cX7_fears 6 = .ok (.iconst 0, 1) := by decide +kernel
set_option maxRecDepth 20000 in
theorem dX7_fears_7 : decode cX7_fears 7 = .ok (.ireturn, 1) := by decide +kernel
set_option maxRecDepth 20000 in
theorem dX7_fears_8 : decode cX7_fears 8 = .ok (.iload_n 1, 1) := by decide +kernel
set_option maxRecDepth 20000 in
theorem dX7_fears_9 : decode cX7_fears 9 = .ok (.lookupswitch 77 #[(1, 48), (6, 27)], 27) := by decide +kernel
set_option maxRecDepth 20000 in
theorem dX7_fears_36 : decode cX7_fears 36 = .ok (.aload_n 0, 1) := by decide +kernel
set_option maxRecDepth 20000 in
theorem dX7_fears_37 : decode cX7_fears 37 = .ok (.bipush 70, 2) := by decide +kernel
set_option maxRecDepth 20000 in
theorem dX7_fears_39 : decode cX7_fears 39 = .ok (.invokevirtual 41, 3) := by decide +kernel
set_option maxRecDepth 20000 in
theorem dX7_fears_42 : decode cX7_fears 42 = .ok (.aload_n 0, 1) := by decide +kernel
set_option maxRecDepth 20000 in
theorem dX7_fears_43 : decode cX7_fears 43 = .ok (.iconst 1, 1) := by decide +kernel
set_option maxRecDepth 20000 in
theorem dX7_fears_44 : decode cX7_fears 44 = .ok (.iload_n 2, 1) := by decide +kernel
set_option maxRecDepth 20000 in
theorem dX7_fears_45 : decode cX7_fears 45 = .ok (.iload_n 3, 1) := by decide +kernel
set_option maxRecDepth 20000 in
theorem dX7_fears_46 : decode cX7_fears 46 = .ok (.iconst 1, 1) := by decide +kernel
set_option maxRecDepth 20000 in
theorem dX7_fears_47 : decode cX7_fears 47 = .ok (.iadd, 1) := by decide +kernel
set_option maxRecDepth 20000 in
theorem dX7_fears_48 : decode cX7_fears 48 = .ok (.invokevirtual 32, 3) := by decide +kernel
set_option maxRecDepth 20000 in
theorem dX7_fears_51 : decode cX7_fears 51 = .ok (.aload_n 0, 1) := by decide +kernel
set_option maxRecDepth 20000 in
theorem dX7_fears_52 : decode cX7_fears 52 = .ok (.getfield 22, 3) := by decide +kernel
set_option maxRecDepth 20000 in
theorem dX7_fears_55 : decode cX7_fears 55 = .ok (.ixor, 1) := by decide +kernel
set_option maxRecDepth 20000 in
theorem dX7_fears_56 : decode cX7_fears 56 = .ok (.ireturn, 1) := by decide +kernel
set_option maxRecDepth 20000 in
theorem dX7_fears_57 : decode cX7_fears 57 = .ok (.aload_n 0, 1) := by decide +kernel
set_option maxRecDepth 20000 in
theorem dX7_fears_58 : decode cX7_fears 58 = .ok (.bipush 20, 2) := by decide +kernel
set_option maxRecDepth 20000 in
theorem dX7_fears_60 : decode cX7_fears 60 = .ok (.invokevirtual 41, 3) := by decide +kernel
set_option maxRecDepth 20000 in
theorem dX7_fears_63 : decode cX7_fears 63 = .ok (.aload_n 0, 1) := by decide +kernel
set_option maxRecDepth 20000 in
theorem dX7_fears_64 : decode cX7_fears 64 = .ok (.iconst 0, 1) := by decide +kernel
set_option maxRecDepth 20000 in
theorem dX7_fears_65 : decode cX7_fears 65 = .ok (.iload_n 2, 1) := by decide +kernel
set_option maxRecDepth 20000 in
theorem dX7_fears_66 : decode cX7_fears 66 = .ok (.iload_n 3, 1) := by decide +kernel
set_option maxRecDepth 20000 in
theorem dX7_fears_67 : decode cX7_fears 67 = .ok (.iconst 1, 1) := by decide +kernel
set_option maxRecDepth 20000 in
theorem dX7_fears_68 : decode cX7_fears 68 = .ok (.iadd, 1) := by decide +kernel
set_option maxRecDepth 20000 in
theorem dX7_fears_69 : decode cX7_fears 69 = .ok (.invokevirtual 32, 3) := by decide +kernel
set_option maxRecDepth 20000 in
theorem dX7_fears_72 : decode cX7_fears 72 = .ok (.aload_n 0, 1) := by decide +kernel
set_option maxRecDepth 20000 in
theorem dX7_fears_73 : decode cX7_fears 73 = .ok (.aload_n 0, 1) := by decide +kernel
set_option maxRecDepth 20000 in
theorem dX7_fears_74 : decode cX7_fears 74 = .ok (.getfield 19, 3) := by decide +kernel
set_option maxRecDepth 20000 in
theorem dX7_fears_77 : decode cX7_fears 77 = .ok (.iconst 1, 1) := by decide +kernel
set_option maxRecDepth 20000 in
theorem dX7_fears_78 : decode cX7_fears 78 = .ok (.iload_n 3, 1) := by decide +kernel
set_option maxRecDepth 20000 in
theorem dX7_fears_79 : decode cX7_fears 79 = .ok (.iconst 1, 1) := by decide +kernel
set_option maxRecDepth 20000 in
theorem dX7_fears_80 : decode cX7_fears 80 = .ok (.iadd, 1) := by decide +kernel
set_option maxRecDepth 20000 in
theorem dX7_fears_81 : decode cX7_fears 81 = .ok (.invokevirtual 35, 3) := by decide +kernel
set_option maxRecDepth 20000 in
theorem dX7_fears_84 : decode cX7_fears 84 = .ok (.isub, 1) := by decide +kernel
set_option maxRecDepth 20000 in
theorem dX7_fears_85 : decode cX7_fears 85 = .ok (.ireturn, 1) := by decide +kernel
set_option maxRecDepth 20000 in
theorem dX7_fears_86 : decode cX7_fears 86 = .ok (.aload_n 0, 1) := by decide +kernel
set_option maxRecDepth 20000 in
theorem dX7_fears_87 : decode cX7_fears 87 = .ok (.bipush 11, 2) := by decide +kernel
set_option maxRecDepth 20000 in
theorem dX7_fears_89 : decode cX7_fears 89 = .ok (.invokevirtual 41, 3) := by decide +kernel
set_option maxRecDepth 20000 in
theorem dX7_fears_92 : decode cX7_fears 92 = .ok (.aload_n 0, 1) := by decide +kernel
set_option maxRecDepth 20000 in
theorem dX7_fears_93 : decode cX7_fears 93 = .ok (.aload_n 0, 1) := by decide +kernel
set_option maxRecDepth 20000 in
theorem dX7_fears_94 : decode cX7_fears 94 = .ok (.getfield 19, 3) := by decide +kernel
set_option maxRecDepth 20000 in
theorem dX7_fears_97 : decode cX7_fears 97 = .ok (.iload_n 2, 1) := by decide +kernel
set_option maxRecDepth 20000 in
theorem dX7_fears_98 : decode cX7_fears 98 = .ok (.iload_n 3, 1) := by decide +kernel
set_option maxRecDepth 20000 in
theorem dX7_fears_99 : decode cX7_fears 99 = .ok (.iconst 1, 1) := by decide +kernel
set_option maxRecDepth 20000 in
theorem dX7_fears_100 : decode cX7_fears 100 = .ok (.iadd, 1) := by decide +kernel
set_option maxRecDepth 20000 in
theorem dX7_fears_101 : decode cX7_fears 101 = .ok (.invokevirtual 28, 3) := by decide +kernel
set_option maxRecDepth 20000 in
theorem dX7_fears_104 : decode cX7_fears 104 = .ok (.iconst 2, 1) := by decide +kernel
set_option maxRecDepth 20000 in
theorem dX7_fears_105 : decode cX7_fears 105 = .ok (.imul, 1) := by decide +kernel
set_option maxRecDepth 20000 in
theorem dX7_fears_106 : decode cX7_fears 106 = .ok (.ireturn, 1) := by decide +kernel
set_option maxRecDepth 20000 in
theorem dX7_shuts_0 : decode cX7_shuts 0 = .ok (.iload_n 3, 1) := by decide +kernel
set_option maxRecDepth 20000 in
theorem dX7_shuts_1 : decode cX7_shuts 1 = .ok (.bipush 40, 2) := by decide +kernel
set_option maxRecDepth 20000 in
theorem dX7_shuts_3 : decode cX7_shuts 3 = .ok (.if_icmp .le 5, 3) := by decide +kernel
set_option maxRecDepth 20000 in
theorem dX7_shuts_6 : decode cX7_shuts 6 = .ok (.iconst 0, 1) := by decide +kernel
set_option maxRecDepth 20000 in
theorem dX7_shuts_7 : decode cX7_shuts 7 = .ok (.ireturn, 1) := by decide +kernel
set_option maxRecDepth 20000 in
theorem dX7_shuts_8 : decode cX7_shuts 8 = .ok (.iload_n 1, 1) := by decide +kernel
set_option maxRecDepth 20000 in
theorem dX7_shuts_9 : decode cX7_shuts 9 = .ok (.lookupswitch 44 #[(3, 27), (5, 27)], 27) := by decide +kernel
set_option maxRecDepth 20000 in
theorem dX7_shuts_36 : decode cX7_shuts 36 = .ok (.aload_n 0, 1) := by decide +kernel
set_option maxRecDepth 20000 in
theorem dX7_shuts_37 : decode cX7_shuts 37 = .ok (.bipush 40, 2) := by decide +kernel
set_option maxRecDepth 20000 in
theorem dX7_shuts_39 : decode cX7_shuts 39 = .ok (.invokevirtual 41, 3) := by decide +kernel
set_option maxRecDepth 20000 in
theorem dX7_shuts_42 : decode cX7_shuts 42 = .ok (.aload_n 0, 1) := by decide +kernel
set_option maxRecDepth 20000 in
theorem dX7_shuts_43 : decode cX7_shuts 43 = .ok (.iconst 0, 1) := by decide +kernel
set_option maxRecDepth 20000 in
theorem dX7_shuts_44 : decode cX7_shuts 44 = .ok (.iload_n 2, 1) := by decide +kernel
set_option maxRecDepth 20000 in
theorem dX7_shuts_45 : decode cX7_shuts 45 = .ok (.iload_n 3, 1) := by decide +kernel
set_option maxRecDepth 20000 in
theorem dX7_shuts_46 : decode cX7_shuts 46 = .ok (.iconst 1, 1) := by decide +kernel
set_option maxRecDepth 20000 in
theorem dX7_shuts_47 : decode cX7_shuts 47 = .ok (.iadd, 1) := by decide +kernel
set_option maxRecDepth 20000 in
theorem dX7_shuts_48 : decode cX7_shuts 48 = .ok (.invokevirtual 35, 3) := by decide +kernel
set_option maxRecDepth 20000 in
theorem dX7_shuts_51 : decode cX7_shuts 51 = .ok (.ineg, 1) := by decide +kernel
set_option maxRecDepth 20000 in
theorem dX7_shuts_52 : decode cX7_shuts 52 = .ok (.ireturn, 1) := by decide +kernel
set_option maxRecDepth 20000 in
theorem dX7_shuts_53 : decode cX7_shuts 53 = .ok (.aload_n 0, 1) := by decide +kernel
set_option maxRecDepth 20000 in
theorem dX7_shuts_54 : decode cX7_shuts 54 = .ok (.bipush 12, 2) := by decide +kernel
set_option maxRecDepth 20000 in
theorem dX7_shuts_56 : decode cX7_shuts 56 = .ok (.invokevirtual 41, 3) := by decide +kernel
set_option maxRecDepth 20000 in
theorem dX7_shuts_59 : decode cX7_shuts 59 = .ok (.iload_n 2, 1) := by decide +kernel
set_option maxRecDepth 20000 in
theorem dX7_shuts_60 : decode cX7_shuts 60 = .ok (.aload_n 0, 1) := by decide +kernel
set_option maxRecDepth 20000 in
theorem dX7_shuts_61 : decode cX7_shuts 61 = .ok (.getfield 25, 3) := by decide +kernel
set_option maxRecDepth 20000 in
theorem dX7_shuts_64 : decode cX7_shuts 64 = .ok (.isub, 1) := by decide +kernel
set_option maxRecDepth 20000 in
theorem dX7_shuts_65 : decode cX7_shuts 65 = .ok (.ireturn, 1) := by decide +kernel
set_option maxRecDepth 20000 in
theorem dX7_tells_0 : decode cX7_tells 0 = .ok (.iload_n 3, 1) := by decide +kernel
set_option maxRecDepth 20000 in
theorem dX7_tells_1 : decode cX7_tells 1 = .ok (.bipush 40, 2) := by decide +kernel
set_option maxRecDepth 20000 in
theorem dX7_tells_3 : decode cX7_tells 3 = .ok (.if_icmp .le 5, 3) := by decide +kernel
set_option maxRecDepth 20000 in
theorem dX7_tells_6 : decode cX7_tells 6 = .ok (.iconst 0, 1) := by decide +kernel
set_option maxRecDepth 20000 in
theorem dX7_tells_7 : decode cX7_tells 7 = .ok (.ireturn, 1) := by decide +kernel
set_option maxRecDepth 20000 in
theorem dX7_tells_8 : decode cX7_tells 8 = .ok (.iload_n 1, 1) := by decide +kernel
set_option maxRecDepth 20000 in
theorem dX7_tells_9 : decode cX7_tells 9 = .ok (.lookupswitch 85 #[(5, 27), (6, 56)], 27) := by decide +kernel
set_option maxRecDepth 20000 in
theorem dX7_tells_36 : decode cX7_tells 36 = .ok (.aload_n 0, 1) := by decide +kernel
set_option maxRecDepth 20000 in
theorem dX7_tells_37 : decode cX7_tells 37 = .ok (.bipush 60, 2) := by decide +kernel
set_option maxRecDepth 20000 in
theorem dX7_tells_39 : decode cX7_tells 39 = .ok (.invokevirtual 41, 3) := by decide +kernel
set_option maxRecDepth 20000 in
theorem dX7_tells_42 : decode cX7_tells 42 = .ok (.aload_n 0, 1) := by decide +kernel
set_option maxRecDepth 20000 in
theorem dX7_tells_43 : decode cX7_tells 43 = .ok (.iconst 3, 1) := by decide +kernel
set_option maxRecDepth 20000 in
theorem dX7_tells_44 : decode cX7_tells 44 = .ok (.iload_n 2, 1) := by decide +kernel
set_option maxRecDepth 20000 in
theorem dX7_tells_45 : decode cX7_tells 45 = .ok (.iload_n 3, 1) := by decide +kernel
set_option maxRecDepth 20000 in
theorem dX7_tells_46 : decode cX7_tells 46 = .ok (.iconst 1, 1) := by decide +kernel
set_option maxRecDepth 20000 in
theorem dX7_tells_47 : decode cX7_tells 47 = .ok (.iadd, 1) := by decide +kernel
set_option maxRecDepth 20000 in
theorem dX7_tells_48 : decode cX7_tells 48 = .ok (.invokevirtual 38, 3) := by decide +kernel
set_option maxRecDepth 20000 in
theorem dX7_tells_51 : decode cX7_tells 51 = .ok (.aload_n 0, 1) := by decide +kernel
set_option maxRecDepth 20000 in
theorem dX7_tells_52 : decode cX7_tells 52 = .ok (.aload_n 0, 1) := by decide +kernel
set_option maxRecDepth 20000 in
theorem dX7_tells_53 : decode cX7_tells 53 = .ok (.getfield 19, 3) := by decide +kernel
set_option maxRecDepth 20000 in
theorem dX7_tells_56 : decode cX7_tells 56 = .ok (.iconst 2, 1) := by decide +kernel
set_option maxRecDepth 20000 in
theorem dX7_tells_57 : decode cX7_tells 57 = .ok (.iload_n 3, 1) := by decide +kernel
set_option maxRecDepth 20000 in
theorem dX7_tells_58 : decode cX7_tells 58 = .ok (.iconst 1, 1) := by decide +kernel
set_option maxRecDepth 20000 in
theorem dX7_tells_59 : decode cX7_tells 59 = .ok (.iadd, 1) := by decide +kernel
set_option maxRecDepth 20000 in
theorem dX7_tells_60 : decode cX7_tells 60 = .ok (.invokevirtual 28, 3) := by decide +kernel
set_option maxRecDepth 20000 in
theorem dX7_tells_63 : decode cX7_tells 63 = .ok (.isub, 1) := by decide +kernel
set_option maxRecDepth 20000 in
theorem dX7_tells_64 : decode cX7_tells 64 = .ok (.ireturn, 1) := by decide +kernel
set_option maxRecDepth 20000 in
theorem dX7_tells_65 : decode cX7_tells 65 = .ok (.aload_n 0, 1) := by decide +kernel
set_option maxRecDepth 20000 in
theorem dX7_tells_66 : decode cX7_tells 66 = .ok (.bipush 71, 2) := by decide +kernel
set_option maxRecDepth 20000 in
theorem dX7_tells_68 : decode cX7_tells 68 = .ok (.invokevirtual 41, 3) := by decide +kernel
set_option maxRecDepth 20000 in
theorem dX7_tells_71 : decode cX7_tells 71 = .ok (.aload_n 0, 1) := by decide +kernel
set_option maxRecDepth 20000 in
theorem dX7_tells_72 : decode cX7_tells 72 = .ok (.aload_n 0, 1) := by decide +kernel
set_option maxRecDepth 20000 in
theorem dX7_tells_73 : decode cX7_tells 73 = .ok (.getfield 19, 3) := by decide +kernel
set_option maxRecDepth 20000 in
theorem dX7_tells_76 : decode cX7_tells 76 = .ok (.iload_n 2, 1) := by decide +kernel
set_option maxRecDepth 20000 in
theorem dX7_tells_77 : decode cX7_tells 77 = .ok (.iload_n 3, 1) := by decide +kernel
set_option maxRecDepth 20000 in
theorem dX7_tells_78 : decode cX7_tells 78 = .ok (.iconst 1, 1) := by decide +kernel
set_option maxRecDepth 20000 in
theorem dX7_tells_79 : decode cX7_tells 79 = .ok (.iadd, 1) := by decide +kernel
set_option maxRecDepth 20000 in
theorem dX7_tells_80 : decode cX7_tells 80 = .ok (.invokevirtual 32, 3) := by decide +kernel
set_option maxRecDepth 20000 in
theorem dX7_tells_83 : decode cX7_tells 83 = .ok (.aload_n 0, 1) := by decide +kernel
set_option maxRecDepth 20000 in
theorem dX7_tells_84 : decode cX7_tells 84 = .ok (.iconst 1, 1) := by decide +kernel
set_option maxRecDepth 20000 in
theorem dX7_tells_85 : decode cX7_tells 85 = .ok (.iload_n 2, 1) := by decide +kernel
set_option maxRecDepth 20000 in
theorem dX7_tells_86 : decode cX7_tells 86 = .ok (.iload_n 3, 1) := by decide +kernel
set_option maxRecDepth 20000 in
theorem dX7_tells_87 : decode cX7_tells 87 = .ok (.iconst 1, 1) := by decide +kernel
set_option maxRecDepth 20000 in
theorem dX7_tells_88 : decode cX7_tells 88 = .ok (.iadd, 1) := by decide +kernel
set_option maxRecDepth 20000 in
theorem dX7_tells_89 : decode cX7_tells 89 = .ok (.invokevirtual 38, 3) := by decide +kernel
set_option maxRecDepth 20000 in
theorem dX7_tells_92 : decode cX7_tells 92 = .ok (.isub, 1) := by decide +kernel
set_option maxRecDepth 20000 in
theorem dX7_tells_93 : decode cX7_tells 93 = .ok (.ireturn, 1) := by decide +kernel
set_option maxRecDepth 20000 in
theorem dX7_tells_94 : decode cX7_tells 94 = .ok (.aload_n 0, 1) := by decide +kernel
set_option maxRecDepth 20000 in
theorem dX7_tells_95 : decode cX7_tells 95 = .ok (.bipush 13, 2) := by decide +kernel
set_option maxRecDepth 20000 in
theorem dX7_tells_97 : decode cX7_tells 97 = .ok (.invokevirtual 41, 3) := by decide +kernel
set_option maxRecDepth 20000 in
theorem dX7_tells_100 : decode cX7_tells 100 = .ok (.aload_n 0, 1) := by decide +kernel
set_option maxRecDepth 20000 in
theorem dX7_tells_101 : decode cX7_tells 101 = .ok (.aload_n 0, 1) := by decide +kernel
set_option maxRecDepth 20000 in
theorem dX7_tells_102 : decode cX7_tells 102 = .ok (.getfield 19, 3) := by decide +kernel
set_option maxRecDepth 20000 in
theorem dX7_tells_105 : decode cX7_tells 105 = .ok (.iload_n 2, 1) := by decide +kernel
set_option maxRecDepth 20000 in
theorem dX7_tells_106 : decode cX7_tells 106 = .ok (.iload_n 3, 1) := by decide +kernel
set_option maxRecDepth 20000 in
theorem dX7_tells_107 : decode cX7_tells 107 = .ok (.iconst 1, 1) := by decide +kernel
set_option maxRecDepth 20000 in
theorem dX7_tells_108 : decode cX7_tells 108 = .ok (.iadd, 1) := by decide +kernel
set_option maxRecDepth 20000 in
theorem dX7_tells_109 : decode cX7_tells 109 = .ok (.invokevirtual 32, 3) := by decide +kernel
set_option maxRecDepth 20000 in
theorem dX7_tells_112 : decode cX7_tells 112 = .ok (.aload_n 0, 1) := by decide +kernel
set_option maxRecDepth 20000 in
theorem dX7_tells_113 : decode cX7_tells 113 = .ok (.aload_n 0, 1) := by decide +kernel
set_option maxRecDepth 20000 in
theorem dX7_tells_114 : decode cX7_tells 114 = .ok (.getfield 19, 3) := by decide +kernel
set_option maxRecDepth 20000 in
theorem dX7_tells_117 : decode cX7_tells 117 = .ok (.iload_n 2, 1) := by decide +kernel
set_option maxRecDepth 20000 in
theorem dX7_tells_118 : decode cX7_tells 118 = .ok (.iload_n 3, 1) := by decide +kernel
set_option maxRecDepth 20000 in
theorem dX7_tells_119 : decode cX7_tells 119 = .ok (.iconst 1, 1) := by decide +kernel
set_option maxRecDepth 20000 in
theorem dX7_tells_120 : decode cX7_tells 120 = .ok (.iadd, 1) := by decide +kernel
set_option maxRecDepth 20000 in
theorem dX7_tells_121 : decode cX7_tells 121 = .ok (.invokevirtual 35, 3) := by decide +kernel
set_option maxRecDepth 20000 in
theorem dX7_tells_124 : decode cX7_tells 124 = .ok (.ixor, 1) := by decide +kernel
set_option maxRecDepth 20000 in
theorem dX7_tells_125 : decode cX7_tells 125 = .ok (.ireturn, 1) := by decide +kernel
set_option maxRecDepth 20000 in
theorem dX8_init_0 : decode cX8_init 0 = .ok (.aload_n 0, 1) := by decide +kernel
set_option maxRecDepth 20000 in
theorem dX8_init_1 : decode cX8_init 1 = .ok (.invokespecial 3, 3) := by decide +kernel
set_option maxRecDepth 20000 in
theorem dX8_init_4 : decode cX8_init 4 = .ok (.aload_n 0, 1) := by decide +kernel
set_option maxRecDepth 20000 in
theorem dX8_init_5 : decode cX8_init 5 = .ok (.new 9, 3) := by decide +kernel
set_option maxRecDepth 20000 in
theorem dX8_init_8 : decode cX8_init 8 = .ok (.dup, 1) := by decide +kernel
set_option maxRecDepth 20000 in
theorem dX8_init_9 : decode cX8_init 9 = .ok (.invokespecial 11, 3) := by decide +kernel
set_option maxRecDepth 20000 in
theorem dX8_init_12 : decode cX8_init 12 = .ok (.putfield 12, 3) := by decide +kernel
set_option maxRecDepth 20000 in
theorem dX8_init_15 : decode cX8_init 15 = .ok (.aload_n 0, 1) := by decide +kernel
set_option maxRecDepth 20000 in
theorem dX8_init_16 : decode cX8_init 16 = .ok (.new 18, 3) := by decide +kernel
set_option maxRecDepth 20000 in
theorem dX8_init_19 : decode cX8_init 19 = .ok (.dup, 1) := by decide +kernel
set_option maxRecDepth 20000 in
theorem dX8_init_20 : decode cX8_init 20 = .ok (.invokespecial 20, 3) := by decide +kernel
set_option maxRecDepth 20000 in
theorem dX8_init_23 : decode cX8_init 23 = .ok (.putfield 21, 3) := by decide +kernel
set_option maxRecDepth 20000 in
theorem dX8_init_26 : decode cX8_init 26 = .ok (.aload_n 0, 1) := by decide +kernel
set_option maxRecDepth 20000 in
theorem dX8_init_27 : decode cX8_init 27 = .ok (.new 25, 3) := by decide +kernel
set_option maxRecDepth 20000 in
theorem dX8_init_30 : decode cX8_init 30 = .ok (.dup, 1) := by decide +kernel
set_option maxRecDepth 20000 in
theorem dX8_init_31 : decode cX8_init 31 = .ok (.invokespecial 27, 3) := by decide +kernel
set_option maxRecDepth 20000 in
theorem dX8_init_34 : decode cX8_init 34 = .ok (.putfield 28, 3) := by decide +kernel
set_option maxRecDepth 20000 in
theorem dX8_init_37 : decode cX8_init 37 = .ok (.aload_n 0, 1) := by decide +kernel
set_option maxRecDepth 20000 in
theorem dX8_init_38 : decode cX8_init 38 = .ok (.bipush 50, 2) := by decide +kernel
set_option maxRecDepth 20000 in
theorem dX8_init_40 : decode cX8_init 40 = .ok (.newarray .byte, 2) := by decide +kernel
set_option maxRecDepth 20000 in
theorem dX8_init_42 : decode cX8_init 42 = .ok (.putfield 32, 3) := by decide +kernel
set_option maxRecDepth 20000 in
theorem dX8_init_45 : decode cX8_init 45 = .ok (.aload_n 0, 1) := by decide +kernel
set_option maxRecDepth 20000 in
theorem dX8_init_46 : decode cX8_init 46 = .ok (.iconst 0, 1) := by decide +kernel
set_option maxRecDepth 20000 in
theorem dX8_init_47 : decode cX8_init 47 = .ok (.putfield 36, 3) := by decide +kernel
set_option maxRecDepth 20000 in
theorem dX8_init_50 : decode cX8_init 50 = .ok (.aload_n 0, 1) := by decide +kernel
set_option maxRecDepth 20000 in
theorem dX8_init_51 : decode cX8_init 51 = .ok (.bipush 20, 2) := by decide +kernel
set_option maxRecDepth 20000 in
theorem dX8_init_53 : decode cX8_init 53 = .ok (.newarray .int, 2) := by decide +kernel
set_option maxRecDepth 20000 in
theorem dX8_init_55 : decode cX8_init 55 = .ok (.putfield 40, 3) := by decide +kernel
set_option maxRecDepth 20000 in
theorem dX8_init_58 : decode cX8_init 58 = .ok (.aload_n 0, 1) := by decide +kernel
set_option maxRecDepth 20000 in
theorem dX8_init_59 : decode cX8_init 59 = .ok (.iconst 0, 1) := by decide +kernel
set_option maxRecDepth 20000 in
theorem dX8_init_60 : decode cX8_init 60 = .ok (.putfield 44, 3) := by decide +kernel
set_option maxRecDepth 20000 in
theorem dX8_init_63 : decode cX8_init 63 = .ok (.aload_n 0, 1) := by decide +kernel
set_option maxRecDepth 20000 in
theorem dX8_init_64 : decode cX8_init 64 = .ok (.bipush 12, 2) := by decide +kernel
set_option maxRecDepth 20000 in
theorem dX8_init_66 : decode cX8_init 66 = .ok (.newarray .int, 2) := by decide +kernel
set_option maxRecDepth 20000 in
theorem dX8_init_68 : decode cX8_init 68 = .ok (.putfield 47, 3) := by decide +kernel
set_option maxRecDepth 20000 in
theorem dX8_init_71 : decode cX8_init 71 = .ok (.aload_n 0, 1) := by decide +kernel
set_option maxRecDepth 20000 in
theorem dX8_init_72 : decode cX8_init 72 = .ok (.iconst 1, 1) := by decide +kernel
set_option maxRecDepth 20000 in
theorem dX8_init_73 : decode cX8_init 73 = .ok (.putfield 50, 3) := by decide +kernel
set_option maxRecDepth 20000 in
theorem dX8_init_76 : decode cX8_init 76 = .ok (.iconst 0, 1) := by decide +kernel
set_option maxRecDepth 20000 in
theorem dX8_init_77 : decode cX8_init 77 = .ok (.istore_n 1, 1) := by decide +kernel
set_option maxRecDepth 20000 in
theorem dX8_init_78 : decode cX8_init 78 = .ok (.iload_n 1, 1) := by decide +kernel
set_option maxRecDepth 20000 in
theorem dX8_init_79 : decode cX8_init 79 = .ok (.bipush 12, 2) := by decide +kernel
set_option maxRecDepth 20000 in
theorem dX8_init_81 : decode cX8_init 81 = .ok (.if_icmp .ge 18, 3) := by decide +kernel
set_option maxRecDepth 20000 in
theorem dX8_init_84 : decode cX8_init 84 = .ok (.aload_n 0, 1) := by decide +kernel
set_option maxRecDepth 20000 in
theorem dX8_init_85 : decode cX8_init 85 = .ok (.getfield 47, 3) := by decide +kernel
set_option maxRecDepth 20000 in
theorem dX8_init_88 : decode cX8_init 88 = .ok (.iload_n 1, 1) := by decide +kernel
set_option maxRecDepth 20000 in
theorem dX8_init_89 : decode cX8_init 89 = .ok (.sipush 1080, 3) := by decide +kernel
set_option maxRecDepth 20000 in
theorem dX8_init_92 : decode cX8_init 92 = .ok (.iastore, 1) := by decide +kernel
set_option maxRecDepth 20000 in
theorem dX8_init_93 : decode cX8_init 93 = .ok (.iinc 1 1, 3) := by decide +kernel
set_option maxRecDepth 20000 in
theorem dX8_init_96 : decode cX8_init 96 = .ok (.goto (-18), 3) := by decide +kernel
set_option maxRecDepth 20000 in
theorem dX8_init_99 : decode cX8_init 99 = .ok (.return_, 1) := by decide +kernel
set_option maxRecDepth 20000 in
theorem dX8_copyFrom_0 : decode cX8_copyFrom 0 = .ok (.aload_n 0, 1) := by decide +kernel
set_option maxRecDepth 20000 in
theorem dX8_copyFrom_1 : decode cX8_copyFrom 1 = .ok (.getfield 12, 3) := by decide +kernel
set_option maxRecDepth 20000 in
theorem dX8_copyFrom_4 : decode cX8_copyFrom 4 = .ok (.aload_n 1, 1) := by decide +kernel
set_option maxRecDepth 20000 in
theorem dX8_copyFrom_5 : decode cX8_copyFrom 5 = .ok (.getfield 12, 3) := by decide +kernel
set_option maxRecDepth 20000 in
theorem dX8_copyFrom_8 : decode cX8_copyFrom 8 = .ok (.invokevirtual 53, 3) := by decide +kernel
set_option maxRecDepth 20000 in
theorem dX8_copyFrom_11 : decode cX8_copyFrom 11 = .ok (.aload_n 0, 1) := by decide +kernel
set_option maxRecDepth 20000 in
theorem dX8_copyFrom_12 : decode cX8_copyFrom 12 = .ok (.getfield 21, 3) := by decide +kernel
set_option maxRecDepth 20000 in
theorem dX8_copyFrom_15 : decode cX8_copyFrom 15 = .ok (.aload_n 1, 1) := by decide +kernel
set_option maxRecDepth 20000 in
theorem dX8_copyFrom_16 : decode cX8_copyFrom 16 = .ok (.getfield 21, 3) := by decide +kernel
set_option maxRecDepth 20000 in
theorem dX8_copyFrom_19 : decode cX8_copyFrom 19 = .ok (.invokevirtual 57, 3) := by decide +kernel
set_option maxRecDepth 20000 in
theorem dX8_copyFrom_22 : decode cX8_copyFrom 22 = .ok (.aload_n 0, 1) := by decide +kernel
set_option maxRecDepth 20000 in
theorem dX8_copyFrom_23 : decode cX8_copyFrom 23 = .ok (.getfield 28, 3) := by decide +kernel
set_option maxRecDepth 20000 in
theorem dX8_copyFrom_26 : decode cX8_copyFrom 26 = .ok (.aload_n 1, 1) := by decide +kernel
set_option maxRecDepth 20000 in
theorem dX8_copyFrom_27 : decode cX8_copyFrom 27 = .ok (.getfield 28, 3) := by decide +kernel
set_option maxRecDepth 20000 in
theorem dX8_copyFrom_30 : decode cX8_copyFrom 30 = .ok (.invokevirtual 60, 3) := by decide +kernel
set_option maxRecDepth 20000 in
theorem dX8_copyFrom_33 : decode cX8_copyFrom 33 = .ok (.aload_n 1, 1) := by decide +kernel
set_option maxRecDepth 20000 in
theorem dX8_copyFrom_34 : decode cX8_copyFrom 34 = .ok (.getfield 32, 3) := by decide +kernel
set_option maxRecDepth 20000 in
theorem dX8_copyFrom_37 : decode cX8_copyFrom 37 = .ok (.iconst 0, 1) := by decide +kernel
set_option maxRecDepth 20000 in
theorem dX8_copyFrom_38 : decode cX8_copyFrom 38 = .ok (.aload_n 0, 1) := by decide +kernel
set_option maxRecDepth 20000 in
theorem dX8_copyFrom_39 : decode cX8_copyFrom 39 = .ok (.getfield 32, 3) := by decide +kernel
set_option maxRecDepth 20000 in
theorem dX8_copyFrom_42 : decode cX8_copyFrom 42 = .ok (.iconst 0, 1) := by decide +kernel
set_option maxRecDepth 20000 in
theorem dX8_copyFrom_43 : decode cX8_copyFrom 43 = .ok (.bipush 50, 2) := by decide +kernel
set_option maxRecDepth 20000 in
theorem dX8_copyFrom_45 : decode cX8_copyFrom 45 = .ok (.invokestatic 63, 3) := by decide +kernel
set_option maxRecDepth 20000 in
theorem dX8_copyFrom_48 : decode cX8_copyFrom 48 = .ok (.aload_n 0, 1) := by decide +kernel
set_option maxRecDepth 20000 in
theorem dX8_copyFrom_49 : decode cX8_copyFrom 49 = .ok (.aload_n 1, 1) := by decide +kernel
set_option maxRecDepth 20000 in
theorem dX8_copyFrom_50 : decode cX8_copyFrom 50 = .ok (.getfield 36, 3) := by decide +kernel
set_option maxRecDepth 20000 in
theorem dX8_copyFrom_53 : decode cX8_copyFrom 53 = .ok (.putfield 36, 3) := by decide +kernel
set_option maxRecDepth 20000 in
theorem dX8_copyFrom_56 : decode cX8_copyFrom 56 = .ok (.aload_n 1, 1) := by decide +kernel
set_option maxRecDepth 20000 in
theorem dX8_copyFrom_57 : decode cX8_copyFrom 57 = .ok (.getfield 40, 3) := by decide +kernel
set_option maxRecDepth 20000 in
theorem dX8_copyFrom_60 : decode cX8_copyFrom 60 = .ok (.iconst 0, 1) := by decide +kernel
set_option maxRecDepth 20000 in
theorem dX8_copyFrom_61 : decode cX8_copyFrom 61 = .ok (.aload_n 0, 1) := by decide +kernel
set_option maxRecDepth 20000 in
theorem dX8_copyFrom_62 : decode cX8_copyFrom 62 = .ok (.getfield 40, 3) := by decide +kernel
set_option maxRecDepth 20000 in
theorem dX8_copyFrom_65 : decode cX8_copyFrom 65 = .ok (.iconst 0, 1) := by decide +kernel
set_option maxRecDepth 20000 in
theorem dX8_copyFrom_66 : decode cX8_copyFrom 66 = .ok (.bipush 20, 2) := by decide +kernel
set_option maxRecDepth 20000 in
theorem dX8_copyFrom_68 : decode cX8_copyFrom 68 = .ok (.invokestatic 63, 3) := by decide +kernel
set_option maxRecDepth 20000 in
theorem dX8_copyFrom_71 : decode cX8_copyFrom 71 = .ok (.aload_n 0, 1) := by decide +kernel
set_option maxRecDepth 20000 in
theorem dX8_copyFrom_72 : decode cX8_copyFrom 72 = .ok (.aload_n 1, 1) := by decide +kernel
set_option maxRecDepth 20000 in
theorem dX8_copyFrom_73 : decode cX8_copyFrom 73 = .ok (.getfield 44, 3) := by decide +kernel
set_option maxRecDepth 20000 in
theorem dX8_copyFrom_76 : decode cX8_copyFrom 76 = .ok (.putfield 44, 3) := by decide +kernel
set_option maxRecDepth 20000 in
theorem dX8_copyFrom_79 : decode cX8_copyFrom 79 = .ok (.aload_n 1, 1) := by decide +kernel
set_option maxRecDepth 20000 in
theorem dX8_copyFrom_80 : decode cX8_copyFrom 80 = .ok (.getfield 47, 3) := by decide +kernel
set_option maxRecDepth 20000 in
theorem dX8_copyFrom_83 : decode cX8_copyFrom 83 = .ok (.iconst 0, 1) := by decide +kernel
set_option maxRecDepth 20000 in
theorem dX8_copyFrom_84 : decode cX8_copyFrom 84 = .ok (.aload_n 0, 1) := by decide +kernel
set_option maxRecDepth 20000 in
theorem dX8_copyFrom_85 : decode cX8_copyFrom 85 = .ok (.getfield 47, 3) := by decide +kernel
set_option maxRecDepth 20000 in
theorem dX8_copyFrom_88 : decode cX8_copyFrom 88 = .ok (.iconst 0, 1) := by decide +kernel
set_option maxRecDepth 20000 in
theorem dX8_copyFrom_89 : decode cX8_copyFrom 89 = .ok (.bipush 12, 2) := by decide +kernel
set_option maxRecDepth 20000 in
theorem dX8_copyFrom_91 : decode cX8_copyFrom 91 = .ok (.invokestatic 63, 3) := by decide +kernel
set_option maxRecDepth 20000 in
theorem dX8_copyFrom_94 : decode cX8_copyFrom 94 = .ok (.aload_n 0, 1) := by decide +kernel
set_option maxRecDepth 20000 in
theorem dX8_copyFrom_95 : decode cX8_copyFrom 95 = .ok (.aload_n 1, 1) := by decide +kernel
set_option maxRecDepth 20000 in
theorem dX8_copyFrom_96 : decode cX8_copyFrom 96 = .ok (.getfield 50, 3) := by decide +kernel
set_option maxRecDepth 20000 in
theorem dX8_copyFrom_99 : decode cX8_copyFrom 99 = .ok (.putfield 50, 3) := by decide +kernel
set_option maxRecDepth 20000 in
theorem dX8_copyFrom_102 : decode cX8_copyFrom 102 = .ok (.return_, 1) := by decide +kernel
set_option maxRecDepth 20000 in
theorem dX8_draw_0 : decode cX8_draw 0 = .ok (.aload_n 0, 1) := by decide +kernel
set_option maxRecDepth 20000 in
theorem dX8_draw_1 : decode cX8_draw 1 = .ok (.aload_n 0, 1) := by decide +kernel
set_option maxRecDepth 20000 in
theorem dX8_draw_2 : decode cX8_draw 2 = .ok (.getfield 50, 3) := by decide +kernel
set_option maxRecDepth 20000 in
theorem dX8_draw_5 : decode cX8_draw 5 = .ok (.ldc 69, 2) := by decide +kernel
set_option maxRecDepth 20000 in
theorem dX8_draw_7 : decode cX8_draw 7 = .ok (.imul, 1) := by decide +kernel
set_option maxRecDepth 20000 in
theorem dX8_draw_8 : decode cX8_draw 8 = .ok (.sipush 12345, 3) := by decide +kernel
set_option maxRecDepth 20000 in
theorem dX8_draw_11 : decode cX8_draw 11 = .ok (.iadd, 1) := by decide +kernel
set_option maxRecDepth 20000 in
theorem dX8_draw_12 : decode cX8_draw 12 = .ok (.putfield 50, 3) := by decide +kernel
set_option maxRecDepth 20000 in
theorem dX8_draw_15 : decode cX8_draw 15 = .ok (.aload_n 0, 1) := by decide +kernel
set_option maxRecDepth 20000 in
theorem dX8_draw_16 : decode cX8_draw 16 = .ok (.getfield 50, 3) := by decide +kernel
set_option maxRecDepth 20000 in
theorem dX8_draw_19 : decode cX8_draw 19 = .ok (.bipush 8, 2) := by decide +kernel
set_option maxRecDepth 20000 in
theorem dX8_draw_21 : decode cX8_draw 21 = .ok (.iushr, 1) := by decide +kernel
set_option maxRecDepth 20000 in
theorem dX8_draw_22 : decode cX8_draw 22 = .ok (.ireturn, 1) := by decide +kernel
set_option maxRecDepth 20000 in
theorem dX8_harmAt_0 : decode cX8_harmAt 0 = .ok (.iconst 0, 1) := by decide +kernel
set_option maxRecDepth 20000 in
theorem dX8_harmAt_1 : decode cX8_harmAt 1 = .ok (.istore_n 2, 1) := by decide +kernel
set_option maxRecDepth 20000 in
theorem dX8_harmAt_2 : decode cX8_harmAt 2 = .ok (.iconst 0, 1) := by decide +kernel
set_option maxRecDepth 20000 in
theorem dX8_harmAt_3 : decode cX8_harmAt 3 = .ok (.istore_n 3, 1) := by decide +kernel
set_option maxRecDepth 20000 in
theorem dX8_harmAt_4 : decode cX8_harmAt 4 = .ok (.iload_n 3, 1) := by decide +kernel
set_option maxRecDepth 20000 in
theorem dX8_harmAt_5 : decode cX8_harmAt 5 = .ok (.bipush 12, 2) := by decide +kernel
set_option maxRecDepth 20000 in
theorem dX8_harmAt_7 : decode cX8_harmAt 7 = .ok (.if_icmp .ge 57, 3) := by decide +kernel
set_option maxRecDepth 20000 in
theorem dX8_harmAt_10 : decode cX8_harmAt 10 = .ok (.aload_n 0, 1) := by decide +kernel
set_option maxRecDepth 20000 in
theorem dX8_harmAt_11 : decode cX8_harmAt 11 = .ok (.getfield 47, 3) := by decide +kernel
set_option maxRecDepth 20000 in
theorem dX8_harmAt_14 : decode cX8_harmAt 14 = .ok (.iload_n 3, 1) := by decide +kernel
set_option maxRecDepth 20000 in
theorem dX8_harmAt_15 : decode cX8_harmAt 15 = .ok (.iaload, 1) := by decide +kernel
set_option maxRecDepth 20000 in
theorem dX8_harmAt_16 : decode cX8_harmAt 16 = .ok (.aload_n 0, 1) := by decide +kernel
set_option maxRecDepth 20000 in
theorem dX8_harmAt_17 : decode cX8_harmAt 17 = .ok (.getfield 12, 3) := by decide +kernel
set_option maxRecDepth 20000 in
theorem dX8_harmAt_20 : decode cX8_harmAt 20 = .ok (.getfield 70, 3) := by decide +kernel
set_option maxRecDepth 20000 in
theorem dX8_harmAt_23 : decode cX8_harmAt 23 = .ok (.bipush 6, 2) := by decide +kernel
set_option maxRecDepth 20000 in
theorem dX8_harmAt_25 : decode cX8_harmAt 25 = .ok (.iaload, 1) := by decide +kernel
set_option maxRecDepth 20000 in
theorem dX8_harmAt_26 : decode cX8_harmAt 26 = .ok (.iadd, 1) := by decide +kernel
set_option maxRecDepth 20000 in
theorem dX8_harmAt_27 : decode cX8_harmAt 27 = .ok (.iload_n 1, 1) := by decide +kernel
set_option maxRecDepth 20000 in
theorem dX8_harmAt_28 : decode cX8_harmAt 28 = .ok (.if_icmp .le 6, 3) := by decide +kernel
set_option maxRecDepth 20000 in
theorem dX8_harmAt_31 : decode cX8_harmAt 31 = .ok (.iinc 2 2, 3) := by decide +kernel
set_option maxRecDepth 20000 in
theorem dX8_harmAt_34 : decode cX8_harmAt 34 = .ok (.iload_n 1, 1) := by decide +kernel
set_option maxRecDepth 20000 in
theorem dX8_harmAt_35 : decode cX8_harmAt 35 = .ok (.aload_n 0, 1) := by decide +kernel
set_option maxRecDepth 20000 in
theorem dX8_harmAt_36 : decode cX8_harmAt 36 = .ok (.getfield 47, 3) := by decide +kernel
set_option maxRecDepth 20000 in
theorem dX8_harmAt_39 : decode cX8_harmAt 39 = .ok (.iload_n 3, 1) := by decide +kernel
set_option maxRecDepth 20000 in
theorem dX8_harmAt_40 : decode cX8_harmAt 40 = .ok (.iaload, 1) := by decide +kernel
set_option maxRecDepth 20000 in
theorem dX8_harmAt_41 : decode cX8_harmAt 41 = .ok (.aload_n 0, 1) := by decide +kernel
set_option maxRecDepth 20000 in
theorem dX8_harmAt_42 : decode cX8_harmAt 42 = .ok (.getfield 12, 3) := by decide +kernel
set_option maxRecDepth 20000 in
theorem dX8_harmAt_45 : decode cX8_harmAt 45 = .ok (.getfield 70, 3) := by decide +kernel
set_option maxRecDepth 20000 in
theorem dX8_harmAt_48 : decode cX8_harmAt 48 = .ok (.bipush 7, 2) := by decide +kernel
set_option maxRecDepth 20000 in
theorem dX8_harmAt_50 : decode cX8_harmAt 50 = .ok (.iaload, 1) := by decide +kernel
set_option maxRecDepth 20000 in
theorem dX8_harmAt_51 : decode cX8_harmAt 51 = .ok (.iadd, 1) := by decide +kernel
set_option maxRecDepth 20000 in
theorem dX8_harmAt_52 : decode cX8_harmAt 52 = .ok (.if_icmp .le 6, 3) := by decide +kernel
set_option maxRecDepth 20000 in
theorem dX8_harmAt_55 : decode cX8_harmAt 55 = .ok (.iinc 2 5, 3) := by decide +kernel
set_option maxRecDepth 20000 in
theorem dX8_harmAt_58 : decode cX8_harmAt 58 = .ok (.iinc 3 1, 3) := by decide +kernel
set_option maxRecDepth 20000 in
theorem dX8_harmAt_61 : decode cX8_harmAt 61 = .ok (.goto (-57), 3) := by decide +kernel
set_option maxRecDepth 20000 in
theorem dX8_harmAt_64 : decode cX8_harmAt 64 = .ok (.iload_n 2, 1) := by decide +kernel
set_option maxRecDepth 20000 in
theorem dX8_harmAt_65 : decode cX8_harmAt 65 = .ok (.ireturn, 1) := by decide +kernel
set_option maxRecDepth 20000 in
theorem dX9_init_0 : decode cX9_init 0 = .ok (.aload_n 0, 1) := by decide +kernel
set_option maxRecDepth 20000 in
theorem dX9_init_1 : decode cX9_init 1 = .ok (.invokespecial 1, 3) := by decide +kernel
set_option maxRecDepth 20000 in
theorem dX9_init_4 : decode cX9_init 4 = .ok (.aload_n 0, 1) := by decide +kernel
set_option maxRecDepth 20000 in
theorem dX9_init_5 : decode cX9_init 5 = .ok (.new 7, 3) := by decide +kernel
set_option maxRecDepth 20000 in
theorem dX9_init_8 : decode cX9_init 8 = .ok (.dup, 1) := by decide +kernel
set_option maxRecDepth 20000 in
theorem dX9_init_9 : decode cX9_init 9 = .ok (.invokespecial 9, 3) := by decide +kernel
set_option maxRecDepth 20000 in
theorem dX9_init_12 : decode cX9_init 12 = .ok (.putfield 10, 3) := by decide +kernel
set_option maxRecDepth 20000 in
theorem dX9_init_15 : decode cX9_init 15 = .ok (.aload_n 0, 1) := by decide +kernel
set_option maxRecDepth 20000 in
theorem dX9_init_16 : decode cX9_init 16 = .ok (.new 7, 3) := by decide +kernel
set_option maxRecDepth 20000 in
theorem dX9_init_19 : decode cX9_init 19 = .ok (.dup, 1) := by decide +kernel
set_option maxRecDepth 20000 in
theorem dX9_init_20 : decode cX9_init 20 = .ok (.invokespecial 9, 3) := by decide +kernel
set_option maxRecDepth 20000 in
theorem dX9_init_23 : decode cX9_init 23 = .ok (.putfield 16, 3) := by decide +kernel
set_option maxRecDepth 20000 in
theorem dX9_init_26 : decode cX9_init 26 = .ok (.aload_n 0, 1) := by decide +kernel
set_option maxRecDepth 20000 in
theorem dX9_init_27 : decode cX9_init 27 = .ok (.iconst 0, 1) := by decide +kernel
set_option maxRecDepth 20000 in
theorem dX9_init_28 : decode cX9_init 28 = .ok (.putfield 19, 3) := by decide +kernel
set_option maxRecDepth 20000 in
theorem dX9_init_31 : decode cX9_init 31 = .ok (.aload_n 0, 1) := by decide +kernel
set_option maxRecDepth 20000 in
theorem dX9_init_32 : decode cX9_init 32 = .ok (.new 23, 3) := by decide +kernel
set_option maxRecDepth 20000 in
theorem dX9_init_35 : decode cX9_init 35 = .ok (.dup, 1) := by decide +kernel
set_option maxRecDepth 20000 in
theorem dX9_init_36 : decode cX9_init 36 = .ok (.aload_n 0, 1) := by decide +kernel
set_option maxRecDepth 20000 in
theorem dX9_init_37 : decode cX9_init 37 = .ok (.getfield 10, 3) := by decide +kernel
set_option maxRecDepth 20000 in
theorem dX9_init_40 : decode cX9_init 40 = .ok (.getfield 25, 3) := by decide +kernel
set_option maxRecDepth 20000 in
theorem dX9_init_43 : decode cX9_init 43 = .ok (.aload_n 0, 1) := by decide +kernel
set_option maxRecDepth 20000 in
theorem dX9_init_44 : decode cX9_init 44 = .ok (.getfield 10, 3) := by decide +kernel
set_option maxRecDepth 20000 in
theorem dX9_init_47 : decode cX9_init 47 = .ok (.getfield 29, 3) := by decide +kernel
set_option maxRecDepth 20000 in
theorem dX9_init_50 : decode cX9_init 50 = .ok (.invokespecial 33, 3) := by decide +kernel
set_option maxRecDepth 20000 in
theorem dX9_init_53 : decode cX9_init 53 = .ok (.putfield 36, 3) := by decide +kernel
set_option maxRecDepth 20000 in
theorem dX9_init_56 : decode cX9_init 56 = .ok (.aload_n 0, 1) := by decide +kernel
set_option maxRecDepth 20000 in
theorem dX9_init_57 : decode cX9_init 57 = .ok (.new 40, 3) := by decide +kernel
set_option maxRecDepth 20000 in
theorem dX9_init_60 : decode cX9_init 60 = .ok (.dup, 1) := by decide +kernel
set_option maxRecDepth 20000 in
theorem dX9_init_61 : decode cX9_init 61 = .ok (.invokespecial 42, 3) := by decide +kernel
set_option maxRecDepth 20000 in
theorem dX9_init_64 : decode cX9_init 64 = .ok (.putfield 43, 3) := by decide +kernel
set_option maxRecDepth 20000 in
theorem dX9_init_67 : decode cX9_init 67 = .ok (.aload_n 0, 1) := by decide +kernel
set_option maxRecDepth 20000 in
theorem dX9_init_68 : decode cX9_init 68 = .ok (.new 47, 3) := by decide +kernel
set_option maxRecDepth 20000 in
theorem dX9_init_71 : decode cX9_init 71 = .ok (.dup, 1) := by decide +kernel
set_option maxRecDepth 20000 in
theorem dX9_init_72 : decode cX9_init 72 = .ok (.invokespecial 49, 3) := by decide +kernel
set_option maxRecDepth 20000 in
theorem dX9_init_75 : decode cX9_init 75 = .ok (.putfield 50, 3) := by decide +kernel
set_option maxRecDepth 20000 in
theorem dX9_init_78 : decode cX9_init 78 = .ok (.aload_n 0, 1) := by decide +kernel
set_option maxRecDepth 20000 in
theorem dX9_init_79 : decode cX9_init 79 = .ok (.iconst 4, 1) := by decide +kernel
set_option maxRecDepth 20000 in
theorem dX9_init_80 : decode cX9_init 80 = .ok (.anewarray 54, 3) := by decide +kernel
set_option maxRecDepth 20000 in
theorem dX9_init_83 : decode cX9_init 83 = .ok (.putfield 56, 3) := by decide +kernel
set_option maxRecDepth 20000 in
theorem dX9_init_86 : decode cX9_init 86 = .ok (.aload_n 0, 1) := by decide +kernel
set_option maxRecDepth 20000 in
theorem dX9_init_87 : decode cX9_init 87 = .ok (.bipush 6, 2) := by decide +kernel
set_option maxRecDepth 20000 in
theorem dX9_init_89 : decode cX9_init 89 = .ok (.newarray .int, 2) := by decide +kernel
set_option maxRecDepth 20000 in
theorem dX9_init_91 : decode cX9_init 91 = .ok (.putfield 60, 3) := by decide +kernel
set_option maxRecDepth 20000 in
theorem dX9_init_94 : decode cX9_init 94 = .ok (.iconst 0, 1) := by decide +kernel
set_option maxRecDepth 20000 in
theorem dX9_init_95 : decode cX9_init 95 = .ok (.istore_n 1, 1) := by decide +kernel
set_option maxRecDepth 20000 in
theorem dX9_init_96 : decode cX9_init 96 = .ok (.iload_n 1, 1) := by decide +kernel
set_option maxRecDepth 20000 in
theorem dX9_init_97 : decode cX9_init 97 = .ok (.iconst 4, 1) := by decide +kernel
set_option maxRecDepth 20000 in
theorem dX9_init_98 : decode cX9_init 98 = .ok (.if_icmp .ge 22, 3) := by decide +kernel
set_option maxRecDepth 20000 in
theorem dX9_init_101 : decode cX9_init 101 = .ok (.aload_n 0, 1) := by decide +kernel
set_option maxRecDepth 20000 in
theorem dX9_init_102 : decode cX9_init 102 = .ok (.getfield 56, 3) := by decide +kernel
set_option maxRecDepth 20000 in
theorem dX9_init_105 : decode cX9_init 105 = .ok (.iload_n 1, 1) := by decide +kernel
set_option maxRecDepth 20000 in
theorem dX9_init_106 : decode cX9_init 106 = .ok (.new 54, 3) := by decide +kernel
set_option maxRecDepth 20000 in
theorem dX9_init_109 : decode cX9_init 109 = .ok (.dup, 1) := by decide +kernel
set_option maxRecDepth 20000 in
theorem dX9_init_110 : decode cX9_init 110 = .ok (.invokespecial 64, 3) := by decide +kernel
set_option maxRecDepth 20000 in
theorem dX9_init_113 : decode cX9_init 113 = .ok (.aastore, 1) := by decide +kernel
set_option maxRecDepth 20000 in
theorem dX9_init_114 : decode cX9_init 114 = .ok (.iinc 1 1, 3) := by decide +kernel
set_option maxRecDepth 20000 in
theorem dX9_init_117 : decode cX9_init 117 = .ok (.goto (-21), 3) := by decide +kernel
set_option maxRecDepth 20000 in
theorem dX9_init_120 : decode cX9_init 120 = .ok (.return_, 1) := by decide +kernel
set_option maxRecDepth 20000 in
theorem dX9_set_0 : decode cX9_set 0 = .ok (.iload_n 1, 1) := by decide +kernel
set_option maxRecDepth 20000 in
theorem dX9_set_1 : decode cX9_set 1 = .ok (.iconst 0, 1) := by decide +kernel
set_option maxRecDepth 20000 in
theorem dX9_set_2 : decode cX9_set 2 = .ok (.bipush 7, 2) := by decide +kernel
set_option maxRecDepth 20000 in
theorem dX9_set_4 : decode cX9_set 4 = .ok (.invokestatic 65, 3) := by decide +kernel
set_option maxRecDepth 20000 in
theorem dX9_set_7 : decode cX9_set 7 = .ok (.ifCond .eq 20, 3) := by decide +kernel
set_option maxRecDepth 20000 in
theorem dX9_set_10 : decode cX9_set 10 = .ok (.iload_n 2, 1) := by decide +kernel
set_option maxRecDepth 20000 in
theorem dX9_set_11 : decode cX9_set 11 = .ok (.getstatic 69, 3) := by decide +kernel
set_option maxRecDepth 20000 in
theorem dX9_set_14 : decode cX9_set 14 = .ok (.iload_n 1, 1) := by decide +kernel
set_option maxRecDepth 20000 in
theorem dX9_set_15 : decode cX9_set 15 = .ok (.iaload, 1) := by decide +kernel
set_option maxRecDepth 20000 in
theorem dX9_set_16 : decode cX9_set 16 = .ok (.getstatic 72, 3) := by decide +kernel
set_option maxRecDepth 20000 in
theorem dX9_set_19 : decode cX9_set 19 = .ok (.iload_n 1, 1) := by decide +kernel
set_option maxRecDepth 20000 in
theorem dX9_set_20 : decode cX9_set 20 = .ok (.iaload, 1) := by decide +kernel
set_option maxRecDepth 20000 in
theorem dX9_set_21 : decode cX9_set 21 = .ok (.invokestatic 65, 3) := by decide +kernel
set_option maxRecDepth 20000 in
theorem dX9_set_24 : decode cX9_set 24 = .ok (.ifCond .ne 9, 3) := by decide +kernel
set_option maxRecDepth 20000 in
theorem dX9_set_27 : decode cX9_set 27 = .ok (.aload_n 0, 1) := by decide +kernel
set_option maxRecDepth 20000 in
theorem dX9_set_28 : decode cX9_set 28 = .ok (.iconst 1, 1) := by decide +kernel
set_option maxRecDepth 20000 in
theorem dX9_set_29 : decode cX9_set 29 = .ok (.invokevirtual 75, 3) := by decide +kernel
set_option maxRecDepth 20000 in
theorem dX9_set_32 : decode cX9_set 32 = .ok (.ireturn, 1) := by decide +kernel
set_option maxRecDepth 20000 in
theorem dX9_set_33 : decode cX9_set 33 = .ok (.aload_n 0, 1) := by decide +kernel
set_option maxRecDepth 20000 in
theorem dX9_set_34 : decode cX9_set 34 = .ok (.getfield 10, 3) := by decide +kernel
set_option maxRecDepth 20000 in
theorem dX9_set_37 : decode cX9_set 37 = .ok (.getfield 25, 3) := by decide +kernel
set_option maxRecDepth 20000 in
theorem dX9_set_40 : decode cX9_set 40 = .ok (.getfield 79, 3) := by decide +kernel
set_option maxRecDepth 20000 in
theorem dX9_set_43 : decode cX9_set 43 = .ok (.iload_n 1, 1) := by decide +kernel
set_option maxRecDepth 20000 in
theorem dX9_set_44 : decode cX9_set 44 = .ok (.iaload, 1) := by decide +kernel
set_option maxRecDepth 20000 in
theorem dX9_set_45 : decode cX9_set 45 = .ok (.istore_n 3, 1) := by decide +kernel
set_option maxRecDepth 20000 in
theorem dX9_set_46 : decode cX9_set 46 = .ok (.aload_n 0, 1) := by decide +kernel
set_option maxRecDepth 20000 in
theorem dX9_set_47 : decode cX9_set 47 = .ok (.getfield 10, 3) := by decide +kernel
set_option maxRecDepth 20000 in
theorem dX9_set_50 : decode cX9_set 50 = .ok (.getfield 25, 3) := by decide +kernel
set_option maxRecDepth 20000 in
theorem dX9_set_53 : decode cX9_set 53 = .ok (.getfield 79, 3) := by decide +kernel
set_option maxRecDepth 20000 in
theorem dX9_set_56 : decode cX9_set 56 = .ok (.iload_n 1, 1) := by decide +kernel
set_option maxRecDepth 20000 in
theorem dX9_set_57 : decode cX9_set 57 = .ok (.iload_n 2, 1) := by decide +kernel
set_option maxRecDepth 20000 in
theorem dX9_set_58 : decode cX9_set 58 = .ok (.iastore, 1) := by decide +kernel
set_option maxRecDepth 20000 in
theorem dX9_set_59 : decode cX9_set 59 = .ok (.iload_n 3, 1) := by decide +kernel
set_option maxRecDepth 20000 in
theorem dX9_set_60 : decode cX9_set 60 = .ok (.ireturn, 1) := by decide +kernel
set_option maxRecDepth 20000 in
theorem dX9_way_0 : decode cX9_way 0 = .ok (.iload_n 1, 1) := by decide +kernel
set_option maxRecDepth 20000 in
theorem dX9_way_1 : decode cX9_way 1 = .ok (.iload_n 2, 1) := by decide +kernel
set_option maxRecDepth 20000 in
theorem dX9_way_2 : decode cX9_way 2 = .ok (.iload_n 3, 1) := by decide +kernel
set_option maxRecDepth 20000 in
theorem dX9_way_3 : decode cX9_way 3 = .ok (.invokestatic 84, 3) := by decide +kernel
set_option maxRecDepth 20000 in
theorem dX9_way_6 : decode cX9_way 6 = .ok (.ifCond .ne 9, 3) := by decide +kernel
set_option maxRecDepth 20000 in
theorem dX9_way_9 : decode cX9_way 9 = .ok (.aload_n 0, 1) := by decide +kernel
set_option maxRecDepth 20000 in
theorem dX9_way_10 : decode cX9_way 10 = .ok (.iconst 1, 1) := by decide +kernel
set_option maxRecDepth 20000 in
theorem dX9_way_11 : decode cX9_way 11 = .ok (.invokevirtual 75, 3) := by decide +kernel
set_option maxRecDepth 20000 in
theorem dX9_way_14 : decode cX9_way 14 = .ok (.ireturn, 1) := by decide +kernel
set_option maxRecDepth 20000 in
theorem dX9_way_15 : decode cX9_way 15 = .ok (.aload_n 0, 1) := by decide +kernel
set_option maxRecDepth 20000 in
theorem dX9_way_16 : decode cX9_way 16 = .ok (.getfield 10, 3) := by decide +kernel
set_option maxRecDepth 20000 in
theorem dX9_way_19 : decode cX9_way 19 = .ok (.getfield 25, 3) := by decide +kernel
set_option maxRecDepth 20000 in
theorem dX9_way_22 : decode cX9_way 22 = .ok (.getfield 87, 3) := by decide +kernel
set_option maxRecDepth 20000 in
theorem dX9_way_25 : decode cX9_way 25 = .ok (.bipush 8, 2) := by decide +kernel
set_option maxRecDepth 20000 in
theorem dX9_way_27 : decode cX9_way 27 = .ok (.if_icmp .lt 9, 3) := by decide +kernel
set_option maxRecDepth 20000 in
theorem dX9_way_30 : decode cX9_way 30 = .ok (.aload_n 0, 1) := by decide +kernel
set_option maxRecDepth 20000 in
theorem dX9_way_31 : decode cX9_way 31 = .ok (.iconst 4, 1) := by decide +kernel
set_option maxRecDepth 20000 in
theorem dX9_way_32 : decode cX9_way 32 = .ok (.invokevirtual 75, 3) := by decide +kernel
set_option maxRecDepth 20000 in
theorem dX9_way_35 : decode cX9_way 35 = .ok (.ireturn, 1) := by decide +kernel
set_option maxRecDepth 20000 in
theorem dX9_way_36 : decode cX9_way 36 = .ok (.aload_n 0, 1) := by decide +kernel
set_option maxRecDepth 20000 in
theorem dX9_way_37 : decode cX9_way 37 = .ok (.getfield 10, 3) := by decide +kernel
set_option maxRecDepth 20000 in
theorem dX9_way_40 : decode cX9_way 40 = .ok (.getfield 25, 3) := by decide +kernel
set_option maxRecDepth 20000 in
theorem dX9_way_43 : decode cX9_way 43 = .ok (.iload_n 1, 1) := by decide +kernel
set_option maxRecDepth 20000 in
theorem dX9_way_44 : decode cX9_way 44 = .ok (.iload_n 2, 1) := by decide +kernel
set_option maxRecDepth 20000 in
theorem dX9_way_45 : decode cX9_way 45 = .ok (.iload_n 3, 1) := by decide +kernel
set_option maxRecDepth 20000 in
theorem dX9_way_46 : decode cX9_way 46 = .ok (.invokevirtual 90, 3) := by decide +kernel
set_option maxRecDepth 20000 in
theorem dX9_way_49 : decode cX9_way 49 = .ok (.ireturn, 1) := by decide +kernel
set_option maxRecDepth 20000 in
theorem dX9_ofWay_0 : decode cX9_ofWay 0 = .ok (.aload_n 0, 1) := by decide +kernel
set_option maxRecDepth 20000 in
theorem dX9_ofWay_1 : decode cX9_ofWay 1 = .ok (.getfield 10, 3) := by decide +kernel
set_option maxRecDepth 20000 in
theorem dX9_ofWay_4 : decode cX9_ofWay 4 = .ok (.getfield 25, 3) := by decide +kernel
set_option maxRecDepth 20000 in
theorem dX9_ofWay_7 : decode cX9_ofWay 7 = .ok (.iload_n 1, 1) := by decide +kernel
set_option maxRecDepth 20000 in
theorem dX9_ofWay_8 : decode cX9_ofWay 8 = .ok (.invokevirtual 94, 3) := by decide +kernel
set_option maxRecDepth 20000 in
theorem dX9_ofWay_11 : decode cX9_ofWay 11 = .ok (.ifCond .eq 13, 3) := by decide +kernel
set_option maxRecDepth 20000 in
theorem dX9_ofWay_14 : decode cX9_ofWay 14 = .ok (.iload_n 2, 1) := by decide +kernel
set_option maxRecDepth 20000 in
theorem dX9_ofWay_15 : decode cX9_ofWay 15 = .ok (.iconst 0, 1) := by decide +kernel
set_option maxRecDepth 20000 in
theorem dX9_ofWay_16 : decode cX9_ofWay 16 = .ok (.bipush 6, 2) := by decide +kernel
set_option maxRecDepth 20000 in
theorem dX9_ofWay_18 : decode cX9_ofWay 18 = .ok (.invokestatic 65, 3) := by decide +kernel
set_option maxRecDepth 20000 in
theorem dX9_ofWay_21 : decode cX9_ofWay 21 = .ok (.ifCond .ne 9, 3) := by decide +kernel
set_option maxRecDepth 20000 in
theorem dX9_ofWay_24 : decode cX9_ofWay 24 = .ok (.aload_n 0, 1) := by decide +kernel
set_option maxRecDepth 20000 in
theorem dX9_ofWay_25 : decode cX9_ofWay 25 = .ok (.iconst 1, 1) := by decide +kernel
set_option maxRecDepth 20000 in
theorem dX9_ofWay_26 : decode cX9_ofWay 26 = .ok (.invokevirtual 75, 3) := by decide +kernel
set_option maxRecDepth 20000 in
theorem dX9_ofWay_29 : decode cX9_ofWay 29 = .ok (.ireturn, 1) := by decide +kernel
set_option maxRecDepth 20000 in
theorem dX9_ofWay_30 : decode cX9_ofWay 30 = .ok (.aload_n 0, 1) := by decide +kernel
set_option maxRecDepth 20000 in
theorem dX9_ofWay_31 : decode cX9_ofWay 31 = .ok (.getfield 10, 3) := by decide +kernel
set_option maxRecDepth 20000 in
theorem dX9_ofWay_34 : decode cX9_ofWay 34 = .ok (.getfield 25, 3) := by decide +kernel
set_option maxRecDepth 20000 in
theorem dX9_ofWay_37 : decode cX9_ofWay 37 = .ok (.iload_n 1, 1) := by decide +kernel
set_option maxRecDepth 20000 in
theorem dX9_ofWay_38 : decode cX9_ofWay 38 = .ok (.iload_n 2, 1) := by decide +kernel
set_option maxRecDepth 20000 in
theorem dX9_ofWay_39 : decode cX9_ofWay 39 = .ok (.invokevirtual 98, 3) := by decide +kernel
set_option maxRecDepth 20000 in
theorem dX9_ofWay_42 : decode cX9_ofWay 42 = .ok (.ireturn, 1) := by decide +kernel
set_option maxRecDepth 20000 in
theorem dX9_wear_0 : decode cX9_wear 0 = .ok (.iload_n 2, 1) := by decide +kernel
set_option maxRecDepth 20000 in
theorem dX9_wear_1 : decode cX9_wear 1 = .ok (.iconst 1, 1) := by decide +kernel
set_option maxRecDepth 20000 in
theorem dX9_wear_2 : decode cX9_wear 2 = .ok (.if_icmp .eq 13, 3) := by decide +kernel
set_option maxRecDepth 20000 in
theorem dX9_wear_5 : decode cX9_wear 5 = .ok (.iload_n 2, 1) := by decide +kernel
set_option maxRecDepth 20000 in
theorem dX9_wear_6 : decode cX9_wear 6 = .ok (.iconst 4, 1) := by decide +kernel
set_option maxRecDepth 20000 in
theorem dX9_wear_7 : decode cX9_wear 7 = .ok (.if_icmp .eq 8, 3) := by decide +kernel
set_option maxRecDepth 20000 in
theorem dX9_wear_10 : decode cX9_wear 10 = .ok (.iload_n 2, 1) := by decide +kernel
set_option maxRecDepth 20000 in
theorem dX9_wear_11 : decode cX9_wear 11 = .ok (.iconst 5, 1) := by decide +kernel
set_option maxRecDepth 20000 in
theorem dX9_wear_12 : decode cX9_wear 12 = .ok (.if_icmp .ne 7, 3) := by decide +kernel
set_option maxRecDepth 20000 in
theorem dX9_wear_15 : decode cX9_wear 15 = .ok (.iconst 1, 1) := by decide +kernel
set_option maxRecDepth 20000 in
theorem dX9_wear_16 : decode cX9_wear 16 = .ok (.goto 4, 3) := by decide +kernel
set_option maxRecDepth 20000 in
theorem dX9_wear_19 : decode cX9_wear 19 = .ok (.iconst 0, 1) := by decide +kernel
set_option maxRecDepth 20000 in
theorem dX9_wear_20 : decode cX9_wear 20 = .ok (.istore 4, 2) := by decide +kernel
set_option maxRecDepth 20000 in
theorem dX9_wear_22 : decode cX9_wear 22 = .ok (.aload_n 0, 1) := by decide +kernel
set_option maxRecDepth 20000 in
theorem dX9_wear_23 : decode cX9_wear 23 = .ok (.getfield 10, 3) := by decide +kernel
set_option maxRecDepth 20000 in
theorem dX9_wear_26 : decode cX9_wear 26 = .ok (.getfield 25, 3) := by decide +kernel
set_option maxRecDepth 20000 in
theorem dX9_wear_29 : decode cX9_wear 29 = .ok (.iload_n 1, 1) := by decide +kernel
set_option maxRecDepth 20000 in
theorem dX9_wear_30 : decode cX9_wear 30 = .ok (.invokevirtual 94, 3) := by decide +kernel
set_option maxRecDepth 20000 in
theorem dX9_wear_33 : decode cX9_wear 33 = .ok (.ifCond .eq 28, 3) := by decide +kernel
set_option maxRecDepth 20000 in
theorem dX9_wear_36 : decode cX9_wear 36 = .ok (.iload 4, 2) := by decide +kernel
set_option maxRecDepth 20000 in
theorem dX9_wear_38 : decode cX9_wear 38 = .ok (.ifCond .eq 23, 3) := by decide +kernel
set_option maxRecDepth 20000 in
theorem dX9_wear_41 : decode cX9_wear 41 = .ok (.iload_n 3, 1) := by decide +kernel
set_option maxRecDepth 20000 in
theorem dX9_wear_42 : decode cX9_wear 42 = .ok (.iconst 0, 1) := by decide +kernel
set_option maxRecDepth 20000 in
theorem dX9_wear_43 : decode cX9_wear 43 = .ok (.iload_n 2, 1) := by decide +kernel
set_option maxRecDepth 20000 in
theorem dX9_wear_44 : decode cX9_wear 44 = .ok (.iconst 5, 1) := by decide +kernel
set_option maxRecDepth 20000 in
theorem dX9_wear_45 : decode cX9_wear 45 = .ok (.if_icmp .ne 8, 3) := by decide +kernel
set_option maxRecDepth 20000 in
theorem dX9_wear_48 : decode cX9_wear 48 = .ok (.bipush 9, 2) := by decide +kernel
set_option maxRecDepth 20000 in
theorem dX9_wear_50 : decode cX9_wear 50 = .ok (.goto 5, 3) := by decide +kernel
set_option maxRecDepth 20000 in
theorem dX9_wear_53 : decode cX9_wear 53 = .ok (.bipush 99, 2) := by decide +kernel
set_option maxRecDepth 20000 in
theorem dX9_wear_55 : decode cX9_wear 55 = .ok (.invokestatic 65, 3) := by decide +kernel
set_option maxRecDepth 20000 in
theorem dX9_wear_58 : decode cX9_wear 58 = .ok (.ifCond .ne 9, 3) := by decide +kernel
set_option maxRecDepth 20000 in
theorem dX9_wear_61 : decode cX9_wear 61 = .ok (.aload_n 0, 1) := by decide +kernel
set_option maxRecDepth 20000 in
theorem dX9_wear_62 : decode cX9_wear 62 = .ok (.iconst 1, 1) := by decide +kernel
set_option maxRecDepth 20000 in
theorem dX9_wear_63 : decode cX9_wear 63 = .ok (.invokevirtual 75, 3) := by decide +kernel
set_option maxRecDepth 20000 in
theorem dX9_wear_66 : decode cX9_wear 66 = .ok (.ireturn, 1) := by decide +kernel
set_option maxRecDepth 20000 in
theorem dX9_wear_67 : decode cX9_wear 67 = .ok (.aload_n 0, 1) := by decide +kernel
set_option maxRecDepth 20000 in
theorem dX9_wear_68 : decode cX9_wear 68 = .ok (.getfield 10, 3) := by decide +kernel
set_option maxRecDepth 20000 in
theorem dX9_wear_71 : decode cX9_wear 71 = .ok (.getfield 25, 3) := by decide +kernel
set_option maxRecDepth 20000 in
theorem dX9_wear_74 : decode cX9_wear 74 = .ok (.getfield 102, 3) := by decide +kernel
set_option maxRecDepth 20000 in
theorem dX9_wear_77 : decode cX9_wear 77 = .ok (.iload_n 1, 1) := by decide +kernel
set_option maxRecDepth 20000 in
theorem dX9_wear_78 : decode cX9_wear 78 = .ok (.aaload, 1) := by decide +kernel
set_option maxRecDepth 20000 in
theorem dX9_wear_79 : decode cX9_wear 79 = .ok (.astore 5, 2) := by decide +kernel
set_option maxRecDepth 20000 in
theorem dX9_wear_81 : decode cX9_wear 81 = .ok (.aload 5, 2) := by decide +kernel
set_option maxRecDepth 20000 in
theorem dX9_wear_83 : decode cX9_wear 83 = .ok (.iload_n 2, 1) := by decide +kernel
set_option maxRecDepth 20000 in
theorem dX9_wear_84 : decode cX9_wear 84 = .ok (.iaload, 1) := by decide +kernel
set_option maxRecDepth 20000 in
theorem dX9_wear_85 : decode cX9_wear 85 = .ok (.istore 6, 2) := by decide +kernel
set_option maxRecDepth 20000 in
theorem dX9_wear_87 : decode cX9_wear 87 = .ok (.aload 5, 2) := by decide +kernel
set_option maxRecDepth 20000 in
theorem dX9_wear_89 : decode cX9_wear 89 = .ok (.iload_n 2, 1) := by decide +kernel
set_option maxRecDepth 20000 in
theorem dX9_wear_90 : decode cX9_wear 90 = .ok (.iload_n 3, 1) := by decide +kernel
set_option maxRecDepth 20000 in
theorem dX9_wear_91 : decode cX9_wear 91 = .ok (.iastore, 1) := by decide +kernel
set_option maxRecDepth 20000 in
theorem dX9_wear_92 : decode cX9_wear 92 = .ok (.iload 6, 2) := by decide +kernel
set_option maxRecDepth 20000 in
theorem dX9_wear_94 : decode cX9_wear 94 = .ok (.ireturn, 1) := by decide +kernel
set_option maxRecDepth 20000 in
theorem dX9_as_0 : decode cX9_as 0 = .ok (.aload_n 0, 1) := by decide +kernel
set_option maxRecDepth 20000 in
theorem dX9_as_1 : decode cX9_as 1 = .ok (.getfield 10, 3) := by decide +kernel
set_option maxRecDepth 20000 in
theorem dX9_as_4 : decode cX9_as 4 = .ok (.getfield 25, 3) := by decide +kernel
set_option maxRecDepth 20000 in
theorem dX9_as_7 : decode cX9_as 7 = .ok (.iload_n 1, 1) := by decide +kernel
set_option maxRecDepth 20000 in
theorem dX9_as_8 : decode cX9_as 8 = .ok (.invokevirtual 94, 3) := by decide +kernel
set_option maxRecDepth 20000 in
theorem dX9_as_11 : decode cX9_as 11 = .ok (.ifCond .eq 13, 3) := by decide +kernel
set_option maxRecDepth 20000 in
theorem dX9_as_14 : decode cX9_as 14 = .ok (.iload_n 2, 1) := by decide +kernel
set_option maxRecDepth 20000 in
theorem dX9_as_15 : decode cX9_as 15 = .ok (.iconst 0, 1) := by decide +kernel
set_option maxRecDepth 20000 in
theorem dX9_as_16 : decode cX9_as 16 = .ok (.bipush 6, 2) := by decide +kernel
set_option maxRecDepth 20000 in
theorem dX9_as_18 : decode cX9_as 18 = .ok (.invokestatic 65, 3) := by decide +kernel
set_option maxRecDepth 20000 in
theorem dX9_as_21 : decode cX9_as 21 = .ok (.ifCond .ne 9, 3) := by decide +kernel
set_option maxRecDepth 20000 in
theorem dX9_as_24 : decode cX9_as 24 = .ok (.aload_n 0, 1) := by decide +kernel
set_option maxRecDepth 20000 in
theorem dX9_as_25 : decode cX9_as 25 = .ok (.iconst 1, 1) := by decide +kernel
set_option maxRecDepth 20000 in
theorem dX9_as_26 : decode cX9_as 26 = .ok (.invokevirtual 75, 3) := by decide +kernel
set_option maxRecDepth 20000 in
theorem dX9_as_29 : decode cX9_as 29 = .ok (.ireturn, 1) := by decide +kernel
set_option maxRecDepth 20000 in
theorem dX9_as_30 : decode cX9_as 30 = .ok (.aload_n 0, 1) := by decide +kernel
set_option maxRecDepth 20000 in
theorem dX9_as_31 : decode cX9_as 31 = .ok (.getfield 10, 3) := by decide +kernel
set_option maxRecDepth 20000 in
theorem dX9_as_34 : decode cX9_as 34 = .ok (.getfield 25, 3) := by decide +kernel
set_option maxRecDepth 20000 in
theorem dX9_as_37 : decode cX9_as 37 = .ok (.getfield 102, 3) := by decide +kernel
set_option maxRecDepth 20000 in
theorem dX9_as_40 : decode cX9_as 40 = .ok (.iload_n 1, 1) := by decide +kernel
set_option maxRecDepth 20000 in
theorem dX9_as_41 : decode cX9_as 41 = .ok (.aaload, 1) := by decide +kernel
set_option maxRecDepth 20000 in
theorem dX9_as_42 : decode cX9_as 42 = .ok (.astore_n 3, 1) := by decide +kernel
set_option maxRecDepth 20000 in
theorem dX9_as_43 : decode cX9_as 43 = .ok (.aload_n 3, 1) := by decide +kernel
set_option maxRecDepth 20000 in
theorem dX9_as_44 : decode cX9_as 44 = .ok (.iconst 0, 1) := by decide +kernel
set_option maxRecDepth 20000 in
theorem dX9_as_45 : decode cX9_as 45 = .ok (.iaload, 1) := by decide +kernel
set_option maxRecDepth 20000 in
theorem dX9_as_46 : decode cX9_as 46 = .ok (.iload_n 2, 1) := by decide +kernel
set_option maxRecDepth 20000 in
theorem dX9_as_47 : decode cX9_as 47 = .ok (.invokestatic 106, 3) := by decide +kernel
set_option maxRecDepth 20000 in
theorem dX9_as_50 : decode cX9_as 50 = .ok (.ifCond .eq 9, 3) := by decide +kernel
set_option maxRecDepth 20000 in
theorem dX9_as_53 : decode cX9_as 53 = .ok (.aload_n 3, 1) := by decide +kernel
set_option maxRecDepth 20000 in
theorem dX9_as_54 : decode cX9_as 54 = .ok (.iconst 1, 1) := by decide +kernel
set_option maxRecDepth 20000 in
theorem dX9_as_55 : decode cX9_as 55 = .ok (.iaload, 1) := by decide +kernel
set_option maxRecDepth 20000 in
theorem dX9_as_56 : decode cX9_as 56 = .ok (.goto 8, 3) := by decide +kernel
set_option maxRecDepth 20000 in
theorem dX9_as_59 : decode cX9_as 59 = .ok (.aload_n 0, 1) := by decide +kernel
set_option maxRecDepth 20000 in
theorem dX9_as_60 : decode cX9_as 60 = .ok (.iconst 5, 1) := by decide +kernel
set_option maxRecDepth 20000 in
theorem dX9_as_61 : decode cX9_as 61 = .ok (.invokevirtual 75, 3) := by decide +kernel
set_option maxRecDepth 20000 in
theorem dX9_as_64 : decode cX9_as 64 = .ok (.ireturn, 1) := by decide +kernel
set_option maxRecDepth 20000 in
theorem dX9_ways_0 : decode cX9_ways 0 = .ok (.aload_n 0, 1) := by decide +kernel
set_option maxRecDepth 20000 in
theorem dX9_ways_1 : decode cX9_ways 1 = .ok (.iload_n 1, 1) := by decide +kernel
set_option maxRecDepth 20000 in
theorem dX9_ways_2 : decode cX9_ways 2 = .ok (.invokevirtual 110, 3) := by decide +kernel
set_option maxRecDepth 20000 in
theorem dX9_ways_5 : decode cX9_ways 5 = .ok (.istore_n 2, 1) := by decide +kernel
set_option maxRecDepth 20000 in
theorem dX9_ways_6 : decode cX9_ways 6 = .ok (.iload_n 2, 1) := by decide +kernel
set_option maxRecDepth 20000 in
theorem dX9_ways_7 : decode cX9_ways 7 = .ok (.ifCond .eq 9, 3) := by decide +kernel
set_option maxRecDepth 20000 in
theorem dX9_ways_10 : decode cX9_ways 10 = .ok (.aload_n 0, 1) := by decide +kernel
set_option maxRecDepth 20000 in
theorem dX9_ways_11 : decode cX9_ways 11 = .ok (.iload_n 2, 1) := by decide +kernel
set_option maxRecDepth 20000 in
theorem dX9_ways_12 : decode cX9_ways 12 = .ok (.invokevirtual 75, 3) := by decide +kernel
set_option maxRecDepth 20000 in
theorem dX9_ways_15 : decode cX9_ways 15 = .ok (.ireturn, 1) := by decide +kernel
set_option maxRecDepth 20000 in
theorem dX9_ways_16 : decode cX9_ways 16 = .ok (.aload_n 0, 1) := by decide +kernel
set_option maxRecDepth 20000 in
theorem dX9_ways_17 : decode cX9_ways 17 = .ok (.getfield 56, 3) := by decide +kernel
set_option maxRecDepth 20000 in
theorem dX9_ways_20 : decode cX9_ways 20 = .ok (.iload_n 1, 1) := by decide +kernel
set_option maxRecDepth 20000 in
theorem dX9_ways_21 : decode cX9_ways 21 = .ok (.aaload, 1) := by decide +kernel
set_option maxRecDepth 20000 in
theorem dX9_ways_22 : decode cX9_ways 22 = .ok (.astore_n 3, 1) := by decide +kernel
set_option maxRecDepth 20000 in
theorem dX9_ways_23 : decode cX9_ways 23 = .ok (.iconst 0, 1) := by decide +kernel
set_option maxRecDepth 20000 in
theorem dX9_ways_24 : decode cX9_ways 24 = .ok (.istore 4, 2) := by decide +kernel
set_option maxRecDepth 20000 in
theorem dX9_ways_26 : decode cX9_ways 26 = .ok (.iconst 0, 1) := by decide +kernel
set_option maxRecDepth 20000 in
theorem dX9_ways_27 : decode cX9_ways 27 = .ok (.istore 5, 2) := by decide +kernel
set_option maxRecDepth 20000 in
theorem dX9_ways_29 : decode cX9_ways 29 = .ok (.iload 5, 2) := by decide +kernel
set_option maxRecDepth 20000 in
theorem dX9_ways_31 : decode cX9_ways 31 = .ok (.iconst 2, 1) := by decide +kernel
set_option maxRecDepth 20000 in
theorem dX9_ways_32 : decode cX9_ways 32 = .ok (.iadd, 1) := by decide +kernel
set_option maxRecDepth 20000 in
theorem dX9_ways_33 : decode cX9_ways 33 = .ok (.aload_n 3, 1) := by decide +kernel
set_option maxRecDepth 20000 in
theorem dX9_ways_34 : decode cX9_ways 34 = .ok (.getfield 113, 3) := by decide +kernel
set_option maxRecDepth 20000 in
theorem dX9_ways_37 : decode cX9_ways 37 = .ok (.if_icmp .ge 91, 3) := by decide +kernel
set_option maxRecDepth 20000 in
theorem dX9_ways_40 : decode cX9_ways 40 = .ok (.aload_n 3, 1) := by decide +kernel
set_option maxRecDepth 20000 in
theorem dX9_ways_41 : decode cX9_ways 41 = .ok (.getfield 116, 3) := by decide +kernel
set_option maxRecDepth 20000 in
theorem dX9_ways_44 : decode cX9_ways 44 = .ok (.astore 6, 2) := by decide +kernel
set_option maxRecDepth 20000 in
theorem dX9_ways_46 : decode cX9_ways 46 = .ok (.aload_n 0, 1) := by decide +kernel
set_option maxRecDepth 20000 in
theorem dX9_ways_47 : decode cX9_ways 47 = .ok (.getfield 10, 3) := by decide +kernel
set_option maxRecDepth 20000 in
theorem dX9_ways_50 : decode cX9_ways 50 = .ok (.getfield 25, 3) := by decide +kernel
set_option maxRecDepth 20000 in
theorem dX9_ways_53 : decode cX9_ways 53 = .ok (.getfield 87, 3) := by decide +kernel
set_option maxRecDepth 20000 in
theorem dX9_ways_56 : decode cX9_ways 56 = .ok (.bipush 8, 2) := by decide +kernel
set_option maxRecDepth 20000 in
theorem dX9_ways_58 : decode cX9_ways 58 = .ok (.if_icmp .ge 70, 3) := by decide +kernel
set_option maxRecDepth 20000 in
theorem dX9_ways_61 : decode cX9_ways 61 = .ok (.aload 6, 2) := by decide +kernel
set_option maxRecDepth 20000 in
theorem dX9_ways_63 : decode cX9_ways 63 = .ok (.iload 5, 2) := by decide +kernel
set_option maxRecDepth 20000 in
theorem dX9_ways_65 : decode cX9_ways 65 = .ok (.iaload, 1) := by decide +kernel
set_option maxRecDepth 20000 in
theorem dX9_ways_66 : decode cX9_ways 66 = .ok (.aload 6, 2) := by decide +kernel
set_option maxRecDepth 20000 in
theorem dX9_ways_68 : decode cX9_ways 68 = .ok (.iload 5, 2) := by decide +kernel
set_option maxRecDepth 20000 in
theorem dX9_ways_70 : decode cX9_ways 70 = .ok (.iconst 1, 1) := by decide +kernel
set_option maxRecDepth 20000 in
theorem dX9_ways_71 : decode cX9_ways 71 = .ok (.iadd, 1) := by decide +kernel
set_option maxRecDepth 20000 in
theorem dX9_ways_72 : decode cX9_ways 72 = .ok (.iaload, 1) := by decide +kernel
set_option maxRecDepth 20000 in
theorem dX9_ways_73 : decode cX9_ways 73 = .ok (.aload 6, 2) := by decide +kernel
set_option maxRecDepth 20000 in
theorem dX9_ways_75 : decode cX9_ways 75 = .ok (.iload 5, 2) := by decide +kernel
set_option maxRecDepth 20000 in
theorem dX9_ways_77 : decode cX9_ways 77 = .ok (.iconst 2, 1) := by decide +kernel
set_option maxRecDepth 20000 in
theorem dX9_ways_78 : decode cX9_ways 78 = .ok (.iadd, 1) := by decide +kernel
set_option maxRecDepth 20000 in
theorem dX9_ways_79 : decode cX9_ways 79 = .ok (.iaload, 1) := by decide +kernel
set_option maxRecDepth 20000 in
theorem dX9_ways_80 : decode cX9_ways 80 = .ok (.invokestatic 84, 3) := by decide +kernel
set_option maxRecDepth 20000 in
theorem dX9_ways_83 : decode cX9_ways 83 = .ok (.ifCond .ne 6, 3) := by decide +kernel
set_option maxRecDepth 20000 in
theorem dX9_ways_86 : decode cX9_ways 86 = .ok (.goto 42, 3) := by decide +kernel
set_option maxRecDepth 20000 in
theorem dX9_ways_89 : decode cX9_ways 89 = .ok (.aload_n 0, 1) := by decide +kernel
set_option maxRecDepth 20000 in
theorem dX9_ways_90 : decode cX9_ways 90 = .ok (.getfield 10, 3) := by decide +kernel
set_option maxRecDepth 20000 in
theorem dX9_ways_93 : decode cX9_ways 93 = .ok (.getfield 25, 3) := by decide +kernel
set_option maxRecDepth 20000 in
theorem dX9_ways_96 : decode cX9_ways 96 = .ok (.aload 6, 2) := by decide +kernel
set_option maxRecDepth 20000 in
theorem dX9_ways_98 : decode cX9_ways 98 = .ok (.iload 5, 2) := by decide +kernel
set_option maxRecDepth 20000 in
theorem dX9_ways_100 : decode cX9_ways 100 = .ok (.iaload, 1) := by decide +kernel
set_option maxRecDepth 20000 in
theorem dX9_ways_101 : decode cX9_ways 101 = .ok (.aload 6, 2) := by decide +kernel
set_option maxRecDepth 20000 in
theorem dX9_ways_103 : decode cX9_ways 103 = .ok (.iload 5, 2) := by decide +kernel
set_option maxRecDepth 20000 in
theorem dX9_ways_105 : decode cX9_ways 105 = .ok (.iconst 1, 1) := by decide +kernel
set_option maxRecDepth 20000 in
theorem dX9_ways_106 : decode cX9_ways 106 = .ok (.iadd, 1) := by decide +kernel
set_option maxRecDepth 20000 in
theorem dX9_ways_107 : decode cX9_ways 107 = .ok (.iaload, 1) := by decide +kernel
set_option maxRecDepth 20000 in
theorem dX9_ways_108 : decode cX9_ways 108 = .ok (.aload 6, 2) := by decide +kernel
set_option maxRecDepth 20000 in
theorem dX9_ways_110 : decode cX9_ways 110 = .ok (.iload 5, 2) := by decide +kernel
set_option maxRecDepth 20000 in
theorem dX9_ways_112 : decode cX9_ways 112 = .ok (.iconst 2, 1) := by decide +kernel
set_option maxRecDepth 20000 in
theorem dX9_ways_113 : decode cX9_ways 113 = .ok (.iadd, 1) := by decide +kernel
set_option maxRecDepth 20000 in
theorem dX9_ways_114 : decode cX9_ways 114 = .ok (.iaload, 1) := by decide +kernel
set_option maxRecDepth 20000 in
theorem dX9_ways_115 : decode cX9_ways 115 = .ok (.invokevirtual 90, 3) := by decide +kernel
set_option maxRecDepth 20000 in
theorem dX9_ways_118 : decode cX9_ways 118 = .ok (.pop, 1) := by decide +kernel
set_option maxRecDepth 20000 in
theorem dX9_ways_119 : decode cX9_ways 119 = .ok (.iinc 4 1, 3) := by decide +kernel
set_option maxRecDepth 20000 in
theorem dX9_ways_122 : decode cX9_ways 122 = .ok (.iinc 5 3, 3) := by decide +kernel
set_option maxRecDepth 20000 in
theorem dX9_ways_125 : decode cX9_ways 125 = .ok (.goto (-96), 3) := by decide +kernel
set_option maxRecDepth 20000 in
theorem dX9_ways_128 : decode cX9_ways 128 = .ok (.iload 4, 2) := by decide +kernel
set_option maxRecDepth 20000 in
theorem dX9_ways_130 : decode cX9_ways 130 = .ok (.ireturn, 1) := by decide +kernel
set_option maxRecDepth 20000 in
theorem dX9_mend_0 : decode cX9_mend 0 = .ok (.aload_n 0, 1) := by decide +kernel
set_option maxRecDepth 20000 in
theorem dX9_mend_1 : decode cX9_mend 1 = .ok (.getfield 10, 3) := by decide +kernel
set_option maxRecDepth 20000 in
theorem dX9_mend_4 : decode cX9_mend 4 = .ok (.getfield 25, 3) := by decide +kernel
set_option maxRecDepth 20000 in
theorem dX9_mend_7 : decode cX9_mend 7 = .ok (.iload_n 1, 1) := by decide +kernel
set_option maxRecDepth 20000 in
theorem dX9_mend_8 : decode cX9_mend 8 = .ok (.invokevirtual 94, 3) := by decide +kernel
set_option maxRecDepth 20000 in
theorem dX9_mend_11 : decode cX9_mend 11 = .ok (.ifCond .ne 9, 3) := by decide +kernel
set_option maxRecDepth 20000 in
theorem dX9_mend_14 : decode cX9_mend 14 = .ok (.aload_n 0, 1) := by decide +kernel
set_option maxRecDepth 20000 in
theorem dX9_mend_15 : decode cX9_mend 15 = .ok (.iconst 1, 1) := by decide +kernel
set_option maxRecDepth 20000 in
theorem dX9_mend_16 : decode cX9_mend 16 = .ok (.invokevirtual 75, 3) := by decide +kernel
set_option maxRecDepth 20000 in
theorem dX9_mend_19 : decode cX9_mend 19 = .ok (.ireturn, 1) := by decide +kernel
set_option maxRecDepth 20000 in
theorem dX9_mend_20 : decode cX9_mend 20 = .ok (.aload_n 0, 1) := by decide +kernel
set_option maxRecDepth 20000 in
theorem dX9_mend_21 : decode cX9_mend 21 = .ok (.getfield 10, 3) := by decide +kernel
set_option maxRecDepth 20000 in
theorem dX9_mend_24 : decode cX9_mend 24 = .ok (.getfield 25, 3) := by decide +kernel
set_option maxRecDepth 20000 in
theorem dX9_mend_27 : decode cX9_mend 27 = .ok (.iload_n 1, 1) := by decide +kernel
set_option maxRecDepth 20000 in
theorem dX9_mend_28 : decode cX9_mend 28 = .ok (.invokevirtual 119, 3) := by decide +kernel
set_option maxRecDepth 20000 in
theorem dX9_mend_31 : decode cX9_mend 31 = .ok (.aload_n 0, 1) := by decide +kernel
set_option maxRecDepth 20000 in
theorem dX9_mend_32 : decode cX9_mend 32 = .ok (.getfield 10, 3) := by decide +kernel
set_option maxRecDepth 20000 in
theorem dX9_mend_35 : decode cX9_mend 35 = .ok (.getfield 25, 3) := by decide +kernel
set_option maxRecDepth 20000 in
theorem dX9_mend_38 : decode cX9_mend 38 = .ok (.getfield 102, 3) := by decide +kernel
set_option maxRecDepth 20000 in
theorem dX9_mend_41 : decode cX9_mend 41 = .ok (.iload_n 1, 1) := by decide +kernel
set_option maxRecDepth 20000 in
theorem dX9_mend_42 : decode cX9_mend 42 = .ok (.aaload, 1) := by decide +kernel
set_option maxRecDepth 20000 in
theorem dX9_mend_43 : decode cX9_mend 43 = .ok (.iconst 1, 1) := by decide +kernel
set_option maxRecDepth 20000 in
theorem dX9_mend_44 : decode cX9_mend 44 = .ok (.iaload, 1) := by decide +kernel
set_option maxRecDepth 20000 in
theorem dX9_mend_45 : decode cX9_mend 45 = .ok (.ireturn, 1) := by decide +kernel
set_option maxRecDepth 20000 in
theorem dX9_thing_0 : decode cX9_thing 0 = .ok (.iload_n 1, 1) := by decide +kernel
set_option maxRecDepth 20000 in
theorem dX9_thing_1 : decode cX9_thing 1 = .ok (.iconst 0, 1) := by decide +kernel
set_option maxRecDepth 20000 in
theorem dX9_thing_2 : decode cX9_thing 2 = .ok (.bipush 99, 2) := by decide +kernel
set_option maxRecDepth 20000 in
theorem dX9_thing_4 : decode cX9_thing 4 = .ok (.invokestatic 65, 3) := by decide +kernel
set_option maxRecDepth 20000 in
theorem dX9_thing_7 : decode cX9_thing 7 = .ok (.ifCond .eq 13, 3) := by decide +kernel
set_option maxRecDepth 20000 in
theorem dX9_thing_10 : decode cX9_thing 10 = .ok (.iload_n 2, 1) := by decide +kernel
set_option maxRecDepth 20000 in
theorem dX9_thing_11 : decode cX9_thing 11 = .ok (.iconst 0, 1) := by decide +kernel
set_option maxRecDepth 20000 in
theorem dX9_thing_12 : decode cX9_thing 12 = .ok (.bipush 30, 2) := by decide +kernel
set_option maxRecDepth 20000 in
theorem dX9_thing_14 : decode cX9_thing 14 = .ok (.invokestatic 65, 3) := by decide +kernel
set_option maxRecDepth 20000 in
theorem dX9_thing_17 : decode cX9_thing 17 = .ok (.ifCond .ne 9, 3) := by decide +kernel
set_option maxRecDepth 20000 in
theorem dX9_thing_20 : decode cX9_thing 20 = .ok (.aload_n 0, 1) := by decide +kernel
set_option maxRecDepth 20000 in
theorem dX9_thing_21 : decode cX9_thing 21 = .ok (.iconst 1, 1) := by decide +kernel
set_option maxRecDepth 20000 in
theorem dX9_thing_22 : decode cX9_thing 22 = .ok (.invokevirtual 75, 3) := by decide +kernel
set_option maxRecDepth 20000 in
theorem dX9_thing_25 : decode cX9_thing 25 = .ok (.ireturn, 1) := by decide +kernel
set_option maxRecDepth 20000 in
theorem dX9_thing_26 : decode cX9_thing 26 = .ok (.aload_n 0, 1) := by decide +kernel
set_option maxRecDepth 20000 in
theorem dX9_thing_27 : decode cX9_thing 27 = .ok (.getfield 10, 3) := by decide +kernel
set_option maxRecDepth 20000 in
theorem dX9_thing_30 : decode cX9_thing 30 = .ok (.getfield 25, 3) := by decide +kernel
set_option maxRecDepth 20000 in
theorem dX9_thing_33 : decode cX9_thing 33 = .ok (.getfield 123, 3) := by decide +kernel
set_option maxRecDepth 20000 in
theorem dX9_thing_36 : decode cX9_thing 36 = .ok (.iconst 5, 1) := by decide +kernel
set_option maxRecDepth 20000 in
theorem dX9_thing_37 : decode cX9_thing 37 = .ok (.if_icmp .lt 9, 3) := by decide +kernel
set_option maxRecDepth 20000 in
theorem dX9_thing_40 : decode cX9_thing 40 = .ok (.aload_n 0, 1) := by decide +kernel
set_option maxRecDepth 20000 in
theorem dX9_thing_41 : decode cX9_thing 41 = .ok (.iconst 4, 1) := by decide +kernel
set_option maxRecDepth 20000 in
theorem dX9_thing_42 : decode cX9_thing 42 = .ok (.invokevirtual 75, 3) := by decide +kernel
set_option maxRecDepth 20000 in
theorem dX9_thing_45 : decode cX9_thing 45 = .ok (.ireturn, 1) := by decide +kernel
set_option maxRecDepth 20000 in
theorem dX9_thing_46 : decode cX9_thing 46 = .ok (.aload_n 0, 1) := by decide +kernel
set_option maxRecDepth 20000 in
theorem dX9_thing_47 : decode cX9_thing 47 = .ok (.getfield 10, 3) := by decide +kernel
set_option maxRecDepth 20000 in
theorem dX9_thing_50 : decode cX9_thing 50 = .ok (.getfield 25, 3) := by decide +kernel
set_option maxRecDepth 20000 in
theorem dX9_thing_53 : decode cX9_thing 53 = .ok (.iload_n 1, 1) := by decide +kernel
set_option maxRecDepth 20000 in
theorem dX9_thing_54 : decode cX9_thing 54 = .ok (.iload_n 2, 1) := by decide +kernel
set_option maxRecDepth 20000 in
theorem dX9_thing_55 : decode cX9_thing 55 = .ok (.invokevirtual 126, 3) := by decide +kernel
set_option maxRecDepth 20000 in
theorem dX9_thing_58 : decode cX9_thing 58 = .ok (.ireturn, 1) := by decide +kernel
set_option maxRecDepth 20000 in
theorem dX9_ofThing_0 : decode cX9_ofThing 0 = .ok (.aload_n 0, 1) := by decide +kernel
set_option maxRecDepth 20000 in
theorem dX9_ofThing_1 : decode cX9_ofThing 1 = .ok (.getfield 10, 3) := by decide +kernel
set_option maxRecDepth 20000 in
theorem dX9_ofThing_4 : decode cX9_ofThing 4 = .ok (.getfield 25, 3) := by decide +kernel
set_option maxRecDepth 20000 in
theorem dX9_ofThing_7 : decode cX9_ofThing 7 = .ok (.iload_n 1, 1) := by decide +kernel
set_option maxRecDepth 20000 in
theorem dX9_ofThing_8 : decode cX9_ofThing 8 = .ok (.invokevirtual 129, 3) := by decide +kernel
set_option maxRecDepth 20000 in
theorem dX9_ofThing_11 : decode cX9_ofThing 11 = .ok (.ifCond .eq 12, 3) := by decide +kernel
set_option maxRecDepth 20000 in
theorem dX9_ofThing_14 : decode cX9_ofThing 14 = .ok (.iload_n 2, 1) := by decide +kernel
set_option maxRecDepth 20000 in
theorem dX9_ofThing_15 : decode cX9_ofThing 15 = .ok (.iconst 0, 1) := by decide +kernel
set_option maxRecDepth 20000 in
theorem dX9_ofThing_16 : decode cX9_ofThing 16 = .ok (.iconst 2, 1) := by decide +kernel
set_option maxRecDepth 20000 in
theorem dX9_ofThing_17 : decode cX9_ofThing 17 = .ok (.invokestatic 65, 3) := by decide +kernel
set_option maxRecDepth 20000 in
theorem dX9_ofThing_20 : decode cX9_ofThing 20 = .ok (.ifCond .ne 9, 3) := by decide +kernel
set_option maxRecDepth 20000 in
theorem dX9_ofThing_23 : decode cX9_ofThing 23 = .ok (.aload_n 0, 1) := by decide +kernel
set_option maxRecDepth 20000 in
theorem dX9_ofThing_24 : decode cX9_ofThing 24 = .ok (.iconst 1, 1) := by decide +kernel
set_option maxRecDepth 20000 in
theorem dX9_ofThing_25 : decode cX9_ofThing 25 = .ok (.invokevirtual 75, 3) := by decide +kernel
set_option maxRecDepth 20000 in
theorem dX9_ofThing_28 : decode cX9_ofThing 28 = .ok (.ireturn, 1) := by decide +kernel
set_option maxRecDepth 20000 in
theorem dX9_ofThing_29 : decode cX9_ofThing 29 = .ok (.aload_n 0, 1) := by decide +kernel
set_option maxRecDepth 20000 in
theorem dX9_ofThing_30 : decode cX9_ofThing 30 = .ok (.getfield 10, 3) := by decide +kernel
set_option maxRecDepth 20000 in
theorem dX9_ofThing_33 : decode cX9_ofThing 33 = .ok (.getfield 25, 3) := by decide +kernel
set_option maxRecDepth 20000 in
theorem dX9_ofThing_36 : decode cX9_ofThing 36 = .ok (.getfield 132, 3) := by decide +kernel
set_option maxRecDepth 20000 in
theorem dX9_ofThing_39 : decode cX9_ofThing 39 = .ok (.iload_n 1, 1) := by decide +kernel
set_option maxRecDepth 20000 in
theorem dX9_ofThing_40 : decode cX9_ofThing 40 = .ok (.aaload, 1) := by decide +kernel
set_option maxRecDepth 20000 in
theorem dX9_ofThing_41 : decode cX9_ofThing 41 = .ok (.iload_n 2, 1) := by decide +kernel
set_option maxRecDepth 20000 in
theorem dX9_ofThing_42 : decode cX9_ofThing 42 = .ok (.iaload, 1) := by decide +kernel
set_option maxRecDepth 20000 in
theorem dX9_ofThing_43 : decode cX9_ofThing 43 = .ok (.ireturn, 1) := by decide +kernel
set_option maxRecDepth 20000 in
theorem dX9_hang_0 : decode cX9_hang 0 = .ok (.aload_n 0, 1) := by decide +kernel
set_option maxRecDepth 20000 in
theorem dX9_hang_1 : decode cX9_hang 1 = .ok (.getfield 10, 3) := by decide +kernel
set_option maxRecDepth 20000 in
theorem dX9_hang_4 : decode cX9_hang 4 = .ok (.getfield 25, 3) := by decide +kernel
set_option maxRecDepth 20000 in
theorem dX9_hang_7 : decode cX9_hang 7 = .ok (.iload_n 1, 1) := by decide +kernel
set_option maxRecDepth 20000 in
theorem dX9_hang_8 : decode cX9_hang 8 = .ok (.invokevirtual 129, 3) := by decide +kernel
set_option maxRecDepth 20000 in
theorem dX9_hang_11 : decode cX9_hang 11 = .ok (.ifCond .eq 12, 3) := by decide +kernel
set_option maxRecDepth 20000 in
theorem dX9_hang_14 : decode cX9_hang 14 = .ok (.iload_n 2, 1) := by decide +kernel
set_option maxRecDepth 20000 in
theorem dX9_hang_15 : decode cX9_hang 15 = .ok (.iconst 0, 1) := by decide +kernel
set_option maxRecDepth 20000 in
theorem dX9_hang_16 : decode cX9_hang 16 = .ok (.iconst 1, 1) := by decide +kernel
set_option maxRecDepth 20000 in
theorem dX9_hang_17 : decode cX9_hang 17 = .ok (.invokestatic 65, 3) := by decide +kernel
set_option maxRecDepth 20000 in
theorem dX9_hang_20 : decode cX9_hang 20 = .ok (.ifCond .ne 9, 3) := by decide +kernel
set_option maxRecDepth 20000 in
theorem dX9_hang_23 : decode cX9_hang 23 = .ok (.aload_n 0, 1) := by decide +kernel
set_option maxRecDepth 20000 in
theorem dX9_hang_24 : decode cX9_hang 24 = .ok (.iconst 1, 1) := by decide +kernel
set_option maxRecDepth 20000 in
theorem dX9_hang_25 : decode cX9_hang 25 = .ok (.invokevirtual 75, 3) := by decide +kernel
set_option maxRecDepth 20000 in
theorem dX9_hang_28 : decode cX9_hang 28 = .ok (.ireturn, 1) := by decide +kernel
set_option maxRecDepth 20000 in
theorem dX9_hang_29 : decode cX9_hang 29 = .ok (.aload_n 0, 1) := by decide +kernel
set_option maxRecDepth 20000 in
theorem dX9_hang_30 : decode cX9_hang 30 = .ok (.getfield 10, 3) := by decide +kernel
set_option maxRecDepth 20000 in
theorem dX9_hang_33 : decode cX9_hang 33 = .ok (.getfield 25, 3) := by decide +kernel
set_option maxRecDepth 20000 in
theorem dX9_hang_36 : decode cX9_hang 36 = .ok (.getfield 132, 3) := by decide +kernel
set_option maxRecDepth 20000 in
theorem dX9_hang_39 : decode cX9_hang 39 = .ok (.iload_n 1, 1) := by decide +kernel
set_option maxRecDepth 20000 in
theorem dX9_hang_40 : decode cX9_hang 40 = .ok (.aaload, 1) := by decide +kernel
set_option maxRecDepth 20000 in
theorem dX9_hang_41 : decode cX9_hang 41 = .ok (.astore_n 3, 1) := by decide +kernel
set_option maxRecDepth 20000 in
theorem dX9_hang_42 : decode cX9_hang 42 = .ok (.aload_n 3, 1) := by decide +kernel
set_option maxRecDepth 20000 in
theorem dX9_hang_43 : decode cX9_hang 43 = .ok (.iconst 2, 1) := by decide +kernel
set_option maxRecDepth 20000 in
theorem dX9_hang_44 : decode cX9_hang 44 = .ok (.iaload, 1) := by decide +kernel
set_option maxRecDepth 20000 in
theorem dX9_hang_45 : decode cX9_hang 45 = .ok (.istore 4, 2) := by decide +kernel
set_option maxRecDepth 20000 in
theorem dX9_hang_47 : decode cX9_hang 47 = .ok (.aload_n 3, 1) := by decide +kernel
set_option maxRecDepth 20000 in
theorem dX9_hang_48 : decode cX9_hang 48 = .ok (.iconst 2, 1) := by decide +kernel
set_option maxRecDepth 20000 in
theorem dX9_hang_49 : decode cX9_hang 49 = .ok (.iload_n 2, 1) := by decide +kernel
set_option maxRecDepth 20000 in
theorem dX9_hang_50 : decode cX9_hang 50 = .ok (.iastore, 1) := by decide +kernel
set_option maxRecDepth 20000 in
theorem dX9_hang_51 : decode cX9_hang 51 = .ok (.iload 4, 2) := by decide +kernel
set_option maxRecDepth 20000 in
theorem dX9_hang_53 : decode cX9_hang 53 = .ok (.ireturn, 1) := by decide +kernel
set_option maxRecDepth 20000 in
theorem dX9_bitten_0 : decode cX9_bitten 0 = .ok (.aload_n 0, 1) := by decide +kernel
set_option maxRecDepth 20000 in
theorem dX9_bitten_1 : decode cX9_bitten 1 = .ok (.getfield 10, 3) := by decide +kernel
set_option maxRecDepth 20000 in
theorem dX9_bitten_4 : decode cX9_bitten 4 = .ok (.getfield 25, 3) := by decide +kernel
set_option maxRecDepth 20000 in
theorem dX9_bitten_7 : decode cX9_bitten 7 = .ok (.getfield 79, 3) := by decide +kernel
set_option maxRecDepth 20000 in
theorem dX9_bitten_10 : decode cX9_bitten 10 = .ok (.iconst 3, 1) := by decide +kernel
set_option maxRecDepth 20000 in
theorem dX9_bitten_11 : decode cX9_bitten 11 = .ok (.iaload, 1) := by decide +kernel
set_option maxRecDepth 20000 in
theorem dX9_bitten_12 : decode cX9_bitten 12 = .ok (.istore_n 1, 1) := by decide +kernel
set_option maxRecDepth 20000 in
theorem dX9_bitten_13 : decode cX9_bitten 13 = .ok (.aload_n 0, 1) := by decide +kernel
set_option maxRecDepth 20000 in
theorem dX9_bitten_14 : decode cX9_bitten 14 = .ok (.getfield 10, 3) := by decide +kernel
set_option maxRecDepth 20000 in
theorem dX9_bitten_17 : decode cX9_bitten 17 = .ok (.getfield 25, 3) := by decide +kernel
set_option maxRecDepth 20000 in
theorem dX9_bitten_20 : decode cX9_bitten 20 = .ok (.getfield 79, 3) := by decide +kernel
set_option maxRecDepth 20000 in
theorem dX9_bitten_23 : decode cX9_bitten 23 = .ok (.iconst 3, 1) := by decide +kernel
set_option maxRecDepth 20000 in
theorem dX9_bitten_24 : decode cX9_bitten 24 = .ok (.bipush 99, 2) := by decide +kernel
set_option maxRecDepth 20000 in
theorem dX9_bitten_26 : decode cX9_bitten 26 = .ok (.iastore, 1) := by decide +kernel
set_option maxRecDepth 20000 in
theorem dX9_bitten_27 : decode cX9_bitten 27 = .ok (.iload_n 1, 1) := by decide +kernel
set_option maxRecDepth 20000 in
theorem dX9_bitten_28 : decode cX9_bitten 28 = .ok (.ireturn, 1) := by decide +kernel
set_option maxRecDepth 20000 in
theorem dX9_bold_0 : decode cX9_bold 0 = .ok (.aload_n 0, 1) := by decide +kernel
set_option maxRecDepth 20000 in
theorem dX9_bold_1 : decode cX9_bold 1 = .ok (.getfield 10, 3) := by decide +kernel
set_option maxRecDepth 20000 in
theorem dX9_bold_4 : decode cX9_bold 4 = .ok (.getfield 25, 3) := by decide +kernel
set_option maxRecDepth 20000 in
theorem dX9_bold_7 : decode cX9_bold 7 = .ok (.invokevirtual 135, 3) := by decide +kernel
set_option maxRecDepth 20000 in
theorem dX9_bold_10 : decode cX9_bold 10 = .ok (.ireturn, 1) := by decide +kernel
set_option maxRecDepth 20000 in
theorem dX9_feed_0 : decode cX9_feed 0 = .ok (.iload_n 3, 1) := by decide +kernel
set_option maxRecDepth 20000 in
theorem dX9_feed_1 : decode cX9_feed 1 = .ok (.iconst 1, 1) := by decide +kernel
set_option maxRecDepth 20000 in
theorem dX9_feed_2 : decode cX9_feed 2 = .ok (.bipush 8, 2) := by decide +kernel
set_option maxRecDepth 20000 in
theorem dX9_feed_4 : decode cX9_feed 4 = .ok (.invokestatic 65, 3) := by decide +kernel
set_option maxRecDepth 20000 in
theorem dX9_feed_7 : decode cX9_feed 7 = .ok (.ifCond .ne 9, 3) := by decide +kernel
set_option maxRecDepth 20000 in
theorem dX9_feed_10 : decode cX9_feed 10 = .ok (.aload_n 0, 1) := by decide +kernel
set_option maxRecDepth 20000 in
theorem dX9_feed_11 : decode cX9_feed 11 = .ok (.iconst 1, 1) := by decide +kernel
set_option maxRecDepth 20000 in
theorem dX9_feed_12 : decode cX9_feed 12 = .ok (.invokevirtual 75, 3) := by decide +kernel
set_option maxRecDepth 20000 in
theorem dX9_feed_15 : decode cX9_feed 15 = .ok (.ireturn, 1) := by decide +kernel
set_option maxRecDepth 20000 in
theorem dX9_feed_16 : decode cX9_feed 16 = .ok (.aload_n 0, 1) := by decide +kernel
set_option maxRecDepth 20000 in
theorem dX9_feed_17 : decode cX9_feed 17 = .ok (.getfield 10, 3) := by decide +kernel
set_option maxRecDepth 20000 in
theorem dX9_feed_20 : decode cX9_feed 20 = .ok (.getfield 139, 3) := by decide +kernel
set_option maxRecDepth 20000 in
theorem dX9_feed_23 : decode cX9_feed 23 = .ok (.iload_n 3, 1) := by decide +kernel
set_option maxRecDepth 20000 in
theorem dX9_feed_24 : decode cX9_feed 24 = .ok (.iadd, 1) := by decide +kernel
set_option maxRecDepth 20000 in
theorem dX9_feed_25 : decode cX9_feed 25 = .ok (.bipush 50, 2) := by decide +kernel
set_option maxRecDepth 20000 in
theorem dX9_feed_27 : decode cX9_feed 27 = .ok (.if_icmp .le 9, 3) := by decide +kernel
set_option maxRecDepth 20000 in
theorem dX9_feed_30 : decode cX9_feed 30 = .ok (.aload_n 0, 1) := by decide +kernel
set_option maxRecDepth 20000 in
theorem dX9_feed_31 : decode cX9_feed 31 = .ok (.iconst 4, 1) := by decide +kernel
set_option maxRecDepth 20000 in
theorem dX9_feed_32 : decode cX9_feed 32 = .ok (.invokevirtual 75, 3) := by decide +kernel
set_option maxRecDepth 20000 in
theorem dX9_feed_35 : decode cX9_feed 35 = .ok (.ireturn, 1) := by decide +kernel
set_option maxRecDepth 20000 in
theorem dX9_feed_36 : decode cX9_feed 36 = .ok (.iconst 0, 1) := by decide +kernel
set_option maxRecDepth 20000 in
theorem dX9_feed_37 : decode cX9_feed 37 = .ok (.istore 4, 2) := by decide +kernel
set_option maxRecDepth 20000 in
theorem dX9_feed_39 : decode cX9_feed 39 = .ok (.iload 4, 2) := by decide +kernel
set_option maxRecDepth 20000 in
theorem dX9_feed_41 : decode cX9_feed 41 = .ok (.iload_n 3, 1) := by decide +kernel
set_option maxRecDepth 20000 in
theorem dX9_feed_42 : decode cX9_feed 42 = .ok (.if_icmp .ge 46, 3) := by decide +kernel
set_option maxRecDepth 20000 in
theorem dX9_feed_45 : decode cX9_feed 45 = .ok (.aload_n 0, 1) := by decide +kernel
set_option maxRecDepth 20000 in
theorem dX9_feed_46 : decode cX9_feed 46 = .ok (.getfield 10, 3) := by decide +kernel
set_option maxRecDepth 20000 in
theorem dX9_feed_49 : decode cX9_feed 49 = .ok (.getfield 142, 3) := by decide +kernel
set_option maxRecDepth 20000 in
theorem dX9_feed_52 : decode cX9_feed 52 = .ok (.aload_n 0, 1) := by decide +kernel
set_option maxRecDepth 20000 in
theorem dX9_feed_53 : decode cX9_feed 53 = .ok (.getfield 10, 3) := by decide +kernel
set_option maxRecDepth 20000 in
theorem dX9_feed_56 : decode cX9_feed 56 = .ok (.getfield 139, 3) := by decide +kernel
set_option maxRecDepth 20000 in
theorem dX9_feed_59 : decode cX9_feed 59 = .ok (.lload_n 1, 1) := by decide +kernel
set_option maxRecDepth 20000 in
theorem dX9_feed_60 : decode cX9_feed 60 = .ok (.bipush 8, 2) := by decide +kernel
set_option maxRecDepth 20000 in
theorem dX9_feed_62 : decode cX9_feed 62 = .ok (.iload 4, 2) := by decide +kernel
set_option maxRecDepth 20000 in
theorem dX9_feed_64 : decode cX9_feed 64 = .ok (.imul, 1) := by decide +kernel
set_option maxRecDepth 20000 in
theorem dX9_feed_65 : decode cX9_feed 65 = .ok (.lushr, 1) := by decide +kernel
set_option maxRecDepth 20000 in
theorem dX9_feed_66 : decode cX9_feed 66 = .ok (.l2i, 1) := by decide +kernel
set_option maxRecDepth 20000 in
theorem dX9_feed_67 : decode cX9_feed 67 = .ok (.i2b, 1) := by decide +kernel
set_option maxRecDepth 20000 in
theorem dX9_feed_68 : decode cX9_feed 68 = .ok (.bastore, 1) := by decide +kernel
set_option maxRecDepth 20000 in
theorem dX9_feed_69 : decode cX9_feed 69 = .ok (.aload_n 0, 1) := by decide +kernel
set_option maxRecDepth 20000 in
theorem dX9_feed_70 : decode cX9_feed 70 = .ok (.getfield 10, 3) := by decide +kernel
set_option maxRecDepth 20000 in
theorem dX9_feed_73 : decode cX9_feed 73 = .ok (.dup, 1) := by decide +kernel
set_option maxRecDepth 20000 in
theorem dX9_feed_74 : decode cX9_feed 74 = .ok (.getfield 139, 3) := by decide +kernel
set_option maxRecDepth 20000 in
theorem dX9_feed_77 : decode cX9_feed 77 = .ok (.iconst 1, 1) := by decide +kernel
set_option maxRecDepth 20000 in
theorem dX9_feed_78 : decode cX9_feed 78 = .ok (.iadd, 1) := by decide +kernel
set_option maxRecDepth 20000 in
theorem dX9_feed_79 : decode cX9_feed 79 = .ok (.putfield 139, 3) := by decide +kernel
set_option maxRecDepth 20000 in
theorem dX9_feed_82 : decode cX9_feed 82 = .ok (.iinc 4 1, 3) := by decide +kernel
set_option maxRecDepth 20000 in
theorem dX9_feed_85 : decode cX9_feed 85 = .ok (.goto (-46), 3) := by decide +kernel
set_option maxRecDepth 20000 in
theorem dX9_feed_88 : decode cX9_feed 88 = .ok (.aload_n 0, 1) := by decide +kernel
set_option maxRecDepth 20000 in
theorem dX9_feed_89 : decode cX9_feed 89 = .ok (.getfield 10, 3) := by decide +kernel
set_option maxRecDepth 20000 in
theorem dX9_feed_92 : decode cX9_feed 92 = .ok (.getfield 139, 3) := by decide +kernel
set_option maxRecDepth 20000 in
theorem dX9_feed_95 : decode cX9_feed 95 = .ok (.ireturn, 1) := by decide +kernel
set_option maxRecDepth 20000 in
theorem dX9_text_0 : decode cX9_text 0 = .ok (.iload_n 1, 1) := by decide +kernel
set_option maxRecDepth 20000 in
theorem dX9_text_1 : decode cX9_text 1 = .ok (.iconst 0, 1) := by decide +kernel
set_option maxRecDepth 20000 in
theorem dX9_text_2 : decode cX9_text 2 = .ok (.iconst 2, 1) := by decide +kernel
set_option maxRecDepth 20000 in
theorem dX9_text_3 : decode cX9_text 3 = .ok (.invokestatic 65, 3) := by decide +kernel
set_option maxRecDepth 20000 in
theorem dX9_text_6 : decode cX9_text 6 = .ok (.ifCond .ne 9, 3) := by decide +kernel
set_option maxRecDepth 20000 in
theorem dX9_text_9 : decode cX9_text 9 = .ok (.aload_n 0, 1) := by decide +kernel
set_option maxRecDepth 20000 in
theorem dX9_text_10 : decode cX9_text 10 = .ok (.iconst 1, 1) := by decide +kernel
set_option maxRecDepth 20000 in
theorem dX9_text_11 : decode cX9_text 11 = .ok (.invokevirtual 75, 3) := by decide +kernel
set_option maxRecDepth 20000 in
theorem dX9_text_14 : decode cX9_text 14 = .ok (.ireturn, 1) := by decide +kernel
set_option maxRecDepth 20000 in
theorem dX9_text_15 : decode cX9_text 15 = .ok (.aload_n 0, 1) := by decide +kernel
set_option maxRecDepth 20000 in
theorem dX9_text_16 : decode cX9_text 16 = .ok (.getfield 43, 3) := by decide +kernel
set_option maxRecDepth 20000 in
theorem dX9_text_19 : decode cX9_text 19 = .ok (.aload_n 0, 1) := by decide +kernel
set_option maxRecDepth 20000 in
theorem dX9_text_20 : decode cX9_text 20 = .ok (.getfield 10, 3) := by decide +kernel
set_option maxRecDepth 20000 in
theorem dX9_text_23 : decode cX9_text 23 = .ok (.getfield 142, 3) := by decide +kernel
set_option maxRecDepth 20000 in
theorem dX9_text_26 : decode cX9_text 26 = .ok (.aload_n 0, 1) := by decide +kernel
set_option maxRecDepth 20000 in
theorem dX9_text_27 : decode cX9_text 27 = .ok (.getfield 10, 3) := by decide +kernel
set_option maxRecDepth 20000 in
theorem dX9_text_30 : decode cX9_text 30 = .ok (.getfield 139, 3) := by decide +kernel
set_option maxRecDepth 20000 in
theorem dX9_text_33 : decode cX9_text 33 = .ok (.iload_n 1, 1) := by decide +kernel
set_option maxRecDepth 20000 in
theorem dX9_text_34 : decode cX9_text 34 = .ok (.invokestatic 146, 3) := by decide +kernel
set_option maxRecDepth 20000 in
theorem dX9_text_37 : decode cX9_text 37 = .ok (.invokevirtual 150, 3) := by decide +kernel
set_option maxRecDepth 20000 in
theorem dX9_text_40 : decode cX9_text 40 = .ok (.istore_n 2, 1) := by decide +kernel
set_option maxRecDepth 20000 in
theorem dX9_text_41 : decode cX9_text 41 = .ok (.aload_n 0, 1) := by decide +kernel
set_option maxRecDepth 20000 in
theorem dX9_text_42 : decode cX9_text 42 = .ok (.getfield 10, 3) := by decide +kernel
set_option maxRecDepth 20000 in
theorem dX9_text_45 : decode cX9_text 45 = .ok (.iconst 0, 1) := by decide +kernel
set_option maxRecDepth 20000 in
theorem dX9_text_46 : decode cX9_text 46 = .ok (.putfield 139, 3) := by decide +kernel
set_option maxRecDepth 20000 in
theorem dX9_text_49 : decode cX9_text 49 = .ok (.iload_n 2, 1) := by decide +kernel
set_option maxRecDepth 20000 in
theorem dX9_text_50 : decode cX9_text 50 = .ok (.ifCond .lt 8, 3) := by decide +kernel
set_option maxRecDepth 20000 in
theorem dX9_text_53 : decode cX9_text 53 = .ok (.bipush (-10), 2) := by decide +kernel
set_option maxRecDepth 20000 in
theorem dX9_text_55 : decode cX9_text 55 = .ok (.iload_n 2, 1) := by decide +kernel
set_option maxRecDepth 20000 in
theorem dX9_text_56 : decode cX9_text 56 = .ok (.isub, 1) := by decide +kernel
set_option maxRecDepth 20000 in
theorem dX9_text_57 : decode cX9_text 57 = .ok (.ireturn, 1) := by decide +kernel
set_option maxRecDepth 20000 in
theorem dX9_text_58 : decode cX9_text 58 = .ok (.aload_n 0, 1) := by decide +kernel
set_option maxRecDepth 20000 in
theorem dX9_text_59 : decode cX9_text 59 = .ok (.getfield 10, 3) := by decide +kernel
set_option maxRecDepth 20000 in
theorem dX9_text_62 : decode cX9_text 62 = .ok (.getfield 29, 3) := by decide +kernel
set_option maxRecDepth 20000 in
theorem dX9_text_65 : decode cX9_text 65 = .ok (.iload_n 1, 1) := by decide +kernel
set_option maxRecDepth 20000 in
theorem dX9_text_66 : decode cX9_text 66 = .ok (.invokevirtual 154, 3) := by decide +kernel
set_option maxRecDepth 20000 in
theorem dX9_text_69 : decode cX9_text 69 = .ok (.aload_n 0, 1) := by decide +kernel
set_option maxRecDepth 20000 in
theorem dX9_text_70 : decode cX9_text 70 = .ok (.getfield 43, 3) := by decide +kernel
set_option maxRecDepth 20000 in
theorem dX9_text_73 : decode cX9_text 73 = .ok (.getfield 160, 3) := by decide +kernel
set_option maxRecDepth 20000 in
theorem dX9_text_76 : decode cX9_text 76 = .ok (.invokevirtual 164, 3) := by decide +kernel
set_option maxRecDepth 20000 in
theorem dX9_text_79 : decode cX9_text 79 = .ok (.iconst 1, 1) := by decide +kernel
set_option maxRecDepth 20000 in
theorem dX9_text_80 : decode cX9_text 80 = .ok (.ireturn, 1) := by decide +kernel
set_option maxRecDepth 20000 in
theorem dX9_law_0 : decode cX9_law 0 = .ok (.iload_n 1, 1) := by decide +kernel
set_option maxRecDepth 20000 in
theorem dX9_law_1 : decode cX9_law 1 = .ok (.tableswitch 72 0 2 #[27, 44, 59], 27) := by decide +kernel
set_option maxRecDepth 20000 in
theorem dX9_law_28 : decode cX9_law 28 = .ok (.aload_n 0, 1) := by decide +kernel
set_option maxRecDepth 20000 in
theorem dX9_law_29 : decode cX9_law 29 = .ok (.getfield 10, 3) := by decide +kernel
set_option maxRecDepth 20000 in
theorem dX9_law_32 : decode cX9_law 32 = .ok (.getfield 29, 3) := by decide +kernel
set_option maxRecDepth 20000 in
theorem dX9_law_35 : decode cX9_law 35 = .ok (.iload_n 2, 1) := by decide +kernel
set_option maxRecDepth 20000 in
theorem dX9_law_36 : decode cX9_law 36 = .ok (.iload_n 3, 1) := by decide +kernel
set_option maxRecDepth 20000 in
theorem dX9_law_37 : decode cX9_law 37 = .ok (.iload 4, 2) := by decide +kernel
set_option maxRecDepth 20000 in
theorem dX9_law_39 : decode cX9_law 39 = .ok (.iconst 0, 1) := by decide +kernel
set_option maxRecDepth 20000 in
theorem dX9_law_40 : decode cX9_law 40 = .ok (.iconst 0, 1) := by decide +kernel
set_option maxRecDepth 20000 in
theorem dX9_law_41 : decode cX9_law 41 = .ok (.invokevirtual 170, 3) := by decide +kernel
set_option maxRecDepth 20000 in
theorem dX9_law_44 : decode cX9_law 44 = .ok (.ireturn, 1) := by decide +kernel
set_option maxRecDepth 20000 in
theorem dX9_law_45 : decode cX9_law 45 = .ok (.aload_n 0, 1) := by decide +kernel
set_option maxRecDepth 20000 in
theorem dX9_law_46 : decode cX9_law 46 = .ok (.getfield 10, 3) := by decide +kernel
set_option maxRecDepth 20000 in
theorem dX9_law_49 : decode cX9_law 49 = .ok (.getfield 29, 3) := by decide +kernel
set_option maxRecDepth 20000 in
theorem dX9_law_52 : decode cX9_law 52 = .ok (.iload_n 2, 1) := by decide +kernel
set_option maxRecDepth 20000 in
theorem dX9_law_53 : decode cX9_law 53 = .ok (.iload_n 3, 1) := by decide +kernel
set_option maxRecDepth 20000 in
theorem dX9_law_54 : decode cX9_law 54 = .ok (.iload 4, 2) := by decide +kernel
set_option maxRecDepth 20000 in
theorem dX9_law_56 : decode cX9_law 56 = .ok (.invokevirtual 174, 3) := by decide +kernel
set_option maxRecDepth 20000 in
theorem dX9_law_59 : decode cX9_law 59 = .ok (.ireturn, 1) := by decide +kernel
set_option maxRecDepth 20000 in
theorem dX9_law_60 : decode cX9_law 60 = .ok (.aload_n 0, 1) := by decide +kernel
set_option maxRecDepth 20000 in
theorem dX9_law_61 : decode cX9_law 61 = .ok (.getfield 10, 3) := by decide +kernel
set_option maxRecDepth 20000 in
theorem dX9_law_64 : decode cX9_law 64 = .ok (.getfield 29, 3) := by decide +kernel
set_option maxRecDepth 20000 in
theorem dX9_law_67 : decode cX9_law 67 = .ok (.iload_n 2, 1) := by decide +kernel
set_option maxRecDepth 20000 in
theorem dX9_law_68 : decode cX9_law 68 = .ok (.iload_n 3, 1) := by decide +kernel
set_option maxRecDepth 20000 in
theorem dX9_law_69 : decode cX9_law 69 = .ok (.invokevirtual 177, 3) := by decide +kernel
set_option maxRecDepth 20000 in
theorem dX9_law_72 : decode cX9_law 72 = .ok (.ireturn, 1) := by decide +kernel
set_option maxRecDepth 20000 in
theorem dX9_law_73 : decode cX9_law 73 = .ok (.aload_n 0, 1) := by decide +kernel
set_option maxRecDepth 20000 in
theorem dX9_law_74 : decode cX9_law 74 = .ok (.iconst 1, 1) := by decide +kernel
set_option maxRecDepth 20000 in
theorem dX9_law_75 : decode cX9_law 75 = .ok (.invokevirtual 75, 3) := by decide +kernel
set_option maxRecDepth 20000 in
theorem dX9_law_78 : decode cX9_law 78 = .ok (.ireturn, 1) := by decide +kernel
set_option maxRecDepth 20000 in
theorem dX9_nights_0 : decode cX9_nights 0 = .ok (.aload_n 0, 1) := by decide +kernel
set_option maxRecDepth 20000 in
theorem dX9_nights_1 : decode cX9_nights 1 = .ok (.iload_n 1, 1) := by decide +kernel
set_option maxRecDepth 20000 in
theorem dX9_nights_2 : decode cX9_nights 2 = .ok (.invokevirtual 180, 3) := by decide +kernel
set_option maxRecDepth 20000 in
theorem dX9_nights_5 : decode cX9_nights 5 = .ok (.istore_n 2, 1) := by decide +kernel
set_option maxRecDepth 20000 in
theorem dX9_nights_6 : decode cX9_nights 6 = .ok (.iload_n 2, 1) := by decide +kernel
set_option maxRecDepth 20000 in
theorem dX9_nights_7 : decode cX9_nights 7 = .ok (.ifCond .eq 9, 3) := by decide +kernel
set_option maxRecDepth 20000 in
theorem dX9_nights_10 : decode cX9_nights 10 = .ok (.aload_n 0, 1) := by decide +kernel
set_option maxRecDepth 20000 in
theorem dX9_nights_11 : decode cX9_nights 11 = .ok (.iload_n 2, 1) := by decide +kernel
set_option maxRecDepth 20000 in
theorem dX9_nights_12 : decode cX9_nights 12 = .ok (.invokevirtual 75, 3) := by decide +kernel
set_option maxRecDepth 20000 in
theorem dX9_nights_15 : decode cX9_nights 15 = .ok (.ireturn, 1) := by decide +kernel
set_option maxRecDepth 20000 in
theorem dX9_nights_16 : decode cX9_nights 16 = .ok (.iconst 0, 1) := by decide +kernel
set_option maxRecDepth 20000 in
theorem dX9_nights_17 : decode cX9_nights 17 = .ok (.istore_n 3, 1) := by decide +kernel
set_option maxRecDepth 20000 in
theorem dX9_nights_18 : decode cX9_nights 18 = .ok (.iload_n 3, 1) := by decide +kernel
set_option maxRecDepth 20000 in
theorem dX9_nights_19 : decode cX9_nights 19 = .ok (.iload_n 1, 1) := by decide +kernel
set_option maxRecDepth 20000 in
theorem dX9_nights_20 : decode cX9_nights 20 = .ok (.if_icmp .ge 26, 3) := by decide +kernel
set_option maxRecDepth 20000 in
theorem dX9_nights_23 : decode cX9_nights 23 = .ok (.aload_n 0, 1) := by decide +kernel
set_option maxRecDepth 20000 in
theorem dX9_nights_24 : decode cX9_nights 24 = .ok (.getfield 10, 3) := by decide +kernel
set_option maxRecDepth 20000 in
theorem dX9_nights_27 : decode cX9_nights 27 = .ok (.getfield 25, 3) := by decide +kernel
set_option maxRecDepth 20000 in
theorem dX9_nights_30 : decode cX9_nights 30 = .ok (.aload_n 0, 1) := by decide +kernel
set_option maxRecDepth 20000 in
theorem dX9_nights_31 : decode cX9_nights 31 = .ok (.getfield 10, 3) := by decide +kernel
set_option maxRecDepth 20000 in
theorem dX9_nights_34 : decode cX9_nights 34 = .ok (.getfield 29, 3) := by decide +kernel
set_option maxRecDepth 20000 in
theorem dX9_nights_37 : decode cX9_nights 37 = .ok (.invokevirtual 183, 3) := by decide +kernel
set_option maxRecDepth 20000 in
theorem dX9_nights_40 : decode cX9_nights 40 = .ok (.iinc 3 1, 3) := by decide +kernel
set_option maxRecDepth 20000 in
theorem dX9_nights_43 : decode cX9_nights 43 = .ok (.goto (-25), 3) := by decide +kernel
set_option maxRecDepth 20000 in
theorem dX9_nights_46 : decode cX9_nights 46 = .ok (.aload_n 0, 1) := by decide +kernel
set_option maxRecDepth 20000 in
theorem dX9_nights_47 : decode cX9_nights 47 = .ok (.getfield 10, 3) := by decide +kernel
set_option maxRecDepth 20000 in
theorem dX9_nights_50 : decode cX9_nights 50 = .ok (.getfield 25, 3) := by decide +kernel
set_option maxRecDepth 20000 in
theorem dX9_nights_53 : decode cX9_nights 53 = .ok (.getfield 79, 3) := by decide +kernel
set_option maxRecDepth 20000 in
theorem dX9_nights_56 : decode cX9_nights 56 = .ok (.iconst 0, 1) := by decide +kernel
set_option maxRecDepth 20000 in
theorem dX9_nights_57 : decode cX9_nights 57 = .ok (.iaload, 1) := by decide +kernel
set_option maxRecDepth 20000 in
theorem dX9_nights_58 : decode cX9_nights 58 = .ok (.ireturn, 1) := by decide +kernel
set_option maxRecDepth 20000 in
theorem dX9_careless_0 : decode cX9_careless 0 = .ok (.iload_n 2, 1) := by decide +kernel
set_option maxRecDepth 20000 in
theorem dX9_careless_1 : decode cX9_careless 1 = .ok (.iconst 0, 1) := by decide +kernel
set_option maxRecDepth 20000 in
theorem dX9_careless_2 : decode cX9_careless 2 = .ok (.bipush 100, 2) := by decide +kernel
set_option maxRecDepth 20000 in
theorem dX9_careless_4 : decode cX9_careless 4 = .ok (.invokestatic 65, 3) := by decide +kernel
set_option maxRecDepth 20000 in
theorem dX9_careless_7 : decode cX9_careless 7 = .ok (.ifCond .eq 11, 3) := by decide +kernel
set_option maxRecDepth 20000 in
theorem dX9_careless_10 : decode cX9_careless 10 = .ok (.aload_n 0, 1) := by decide +kernel
set_option maxRecDepth 20000 in
theorem dX9_careless_11 : decode cX9_careless 11 = .ok (.iload_n 1, 1) := by decide +kernel
set_option maxRecDepth 20000 in
theorem dX9_careless_12 : decode cX9_careless 12 = .ok (.invokevirtual 180, 3) := by decide +kernel
set_option maxRecDepth 20000 in
theorem dX9_careless_15 : decode cX9_careless 15 = .ok (.goto 4, 3) := by decide +kernel
set_option maxRecDepth 20000 in
theorem dX9_careless_18 : decode cX9_careless 18 = .ok (.iconst 1, 1) := by decide +kernel
set_option maxRecDepth 20000 in
theorem dX9_careless_19 : decode cX9_careless 19 = .ok (.istore_n 3, 1) := by decide +kernel
set_option maxRecDepth 20000 in
theorem dX9_careless_20 : decode cX9_careless 20 = .ok (.iload_n 3, 1) := by decide +kernel
set_option maxRecDepth 20000 in
theorem dX9_careless_21 : decode cX9_careless 21 = .ok (.ifCond .eq 9, 3) := by decide +kernel
set_option maxRecDepth 20000 in
theorem dX9_careless_24 : decode cX9_careless 24 = .ok (.aload_n 0, 1) := by decide +kernel
set_option maxRecDepth 20000 in
theorem dX9_careless_25 : decode cX9_careless 25 = .ok (.iload_n 3, 1) := by decide +kernel
set_option maxRecDepth 20000 in
theorem dX9_careless_26 : decode cX9_careless 26 = .ok (.invokevirtual 75, 3) := by decide +kernel
set_option maxRecDepth 20000 in
theorem dX9_careless_29 : decode cX9_careless 29 = .ok (.ireturn, 1) := by decide +kernel
set_option maxRecDepth 20000 in
theorem dX9_careless_30 : decode cX9_careless 30 = .ok (.iconst 0, 1) := by decide +kernel
set_option maxRecDepth 20000 in
theorem dX9_careless_31 : decode cX9_careless 31 = .ok (.istore 4, 2) := by decide +kernel
set_option maxRecDepth 20000 in
theorem dX9_careless_33 : decode cX9_careless 33 = .ok (.iload 4, 2) := by decide +kernel
set_option maxRecDepth 20000 in
theorem dX9_careless_35 : decode cX9_careless 35 = .ok (.iload_n 1, 1) := by decide +kernel
set_option maxRecDepth 20000 in
theorem dX9_careless_36 : decode cX9_careless 36 = .ok (.if_icmp .ge 53, 3) := by decide +kernel
set_option maxRecDepth 20000 in
theorem dX9_careless_39 : decode cX9_careless 39 = .ok (.aload_n 0, 1) := by decide +kernel
set_option maxRecDepth 20000 in
theorem dX9_careless_40 : decode cX9_careless 40 = .ok (.getfield 10, 3) := by decide +kernel
set_option maxRecDepth 20000 in
theorem dX9_careless_43 : decode cX9_careless 43 = .ok (.invokevirtual 187, 3) := by decide +kernel
set_option maxRecDepth 20000 in
theorem dX9_careless_46 : decode cX9_careless 46 = .ok (.bipush 100, 2) := by decide +kernel
set_option maxRecDepth 20000 in
theorem dX9_careless_48 : decode cX9_careless 48 = .ok (.irem, 1) := by decide +kernel
set_option maxRecDepth 20000 in
theorem dX9_careless_49 : decode cX9_careless 49 = .ok (.iload_n 2, 1) := by decide +kernel
set_option maxRecDepth 20000 in
theorem dX9_careless_50 : decode cX9_careless 50 = .ok (.if_icmp .ge 16, 3) := by decide +kernel
set_option maxRecDepth 20000 in
theorem dX9_careless_53 : decode cX9_careless 53 = .ok (.aload_n 0, 1) := by decide +kernel
set_option maxRecDepth 20000 in
theorem dX9_careless_54 : decode cX9_careless 54 = .ok (.getfield 10, 3) := by decide +kernel
set_option maxRecDepth 20000 in
theorem dX9_careless_57 : decode cX9_careless 57 = .ok (.getfield 25, 3) := by decide +kernel
set_option maxRecDepth 20000 in
theorem dX9_careless_60 : decode cX9_careless 60 = .ok (.getfield 79, 3) := by decide +kernel
set_option maxRecDepth 20000 in
theorem dX9_careless_63 : decode cX9_careless 63 = .ok (.iconst 4, 1) := by decide +kernel
set_option maxRecDepth 20000 in
theorem dX9_careless_64 : decode cX9_careless 64 = .ok (.iconst 1, 1) := by decide +kernel
set_option maxRecDepth 20000 in
theorem dX9_careless_65 : decode cX9_careless 65 = .ok (.iastore, 1) := by decide +kernel
set_option maxRecDepth 20000 in
theorem dX9_careless_66 : decode cX9_careless 66 = .ok (.aload_n 0, 1) := by decide +kernel
set_option maxRecDepth 20000 in
theorem dX9_careless_67 : decode cX9_careless 67 = .ok (.getfield 10, 3) := by decide +kernel
set_option maxRecDepth 20000 in
theorem dX9_careless_70 : decode cX9_careless 70 = .ok (.getfield 25, 3) := by decide +kernel
set_option maxRecDepth 20000 in
theorem dX9_careless_73 : decode cX9_careless 73 = .ok (.aload_n 0, 1) := by decide +kernel
set_option maxRecDepth 20000 in
theorem dX9_careless_74 : decode cX9_careless 74 = .ok (.getfield 10, 3) := by decide +kernel
set_option maxRecDepth 20000 in
theorem dX9_careless_77 : decode cX9_careless 77 = .ok (.getfield 29, 3) := by decide +kernel
set_option maxRecDepth 20000 in
theorem dX9_careless_80 : decode cX9_careless 80 = .ok (.invokevirtual 183, 3) := by decide +kernel
set_option maxRecDepth 20000 in
theorem dX9_careless_83 : decode cX9_careless 83 = .ok (.iinc 4 1, 3) := by decide +kernel
set_option maxRecDepth 20000 in
theorem dX9_careless_86 : decode cX9_careless 86 = .ok (.goto (-53), 3) := by decide +kernel
set_option maxRecDepth 20000 in
theorem dX9_careless_89 : decode cX9_careless 89 = .ok (.aload_n 0, 1) := by decide +kernel
set_option maxRecDepth 20000 in
theorem dX9_careless_90 : decode cX9_careless 90 = .ok (.getfield 10, 3) := by decide +kernel
set_option maxRecDepth 20000 in
theorem dX9_careless_93 : decode cX9_careless 93 = .ok (.getfield 25, 3) := by decide +kernel
set_option maxRecDepth 20000 in
theorem dX9_careless_96 : decode cX9_careless 96 = .ok (.getfield 79, 3) := by decide +kernel
set_option maxRecDepth 20000 in
theorem dX9_careless_99 : decode cX9_careless 99 = .ok (.iconst 0, 1) := by decide +kernel
set_option maxRecDepth 20000 in
theorem dX9_careless_100 : decode cX9_careless 100 = .ok (.iaload, 1) := by decide +kernel
set_option maxRecDepth 20000 in
theorem dX9_careless_101 : decode cX9_careless 101 = .ok (.ireturn, 1) := by decide +kernel
set_option maxRecDepth 20000 in
theorem dX9_then_0 : decode cX9_then 0 = .ok (.iload_n 1, 1) := by decide +kernel
set_option maxRecDepth 20000 in
theorem dX9_then_1 : decode cX9_then 1 = .ok (.iconst 0, 1) := by decide +kernel
set_option maxRecDepth 20000 in
theorem dX9_then_2 : decode cX9_then 2 = .ok (.bipush 60, 2) := by decide +kernel
set_option maxRecDepth 20000 in
theorem dX9_then_4 : decode cX9_then 4 = .ok (.invokestatic 65, 3) := by decide +kernel
set_option maxRecDepth 20000 in
theorem dX9_then_7 : decode cX9_then 7 = .ok (.ifCond .eq 12, 3) := by decide +kernel
set_option maxRecDepth 20000 in
theorem dX9_then_10 : decode cX9_then 10 = .ok (.iload_n 2, 1) := by decide +kernel
set_option maxRecDepth 20000 in
theorem dX9_then_11 : decode cX9_then 11 = .ok (.iconst 0, 1) := by decide +kernel
set_option maxRecDepth 20000 in
theorem dX9_then_12 : decode cX9_then 12 = .ok (.iconst 5, 1) := by decide +kernel
set_option maxRecDepth 20000 in
theorem dX9_then_13 : decode cX9_then 13 = .ok (.invokestatic 65, 3) := by decide +kernel
set_option maxRecDepth 20000 in
theorem dX9_then_16 : decode cX9_then 16 = .ok (.ifCond .ne 9, 3) := by decide +kernel
set_option maxRecDepth 20000 in
theorem dX9_then_19 : decode cX9_then 19 = .ok (.aload_n 0, 1) := by decide +kernel
set_option maxRecDepth 20000 in
theorem dX9_then_20 : decode cX9_then 20 = .ok (.iconst 1, 1) := by decide +kernel
set_option maxRecDepth 20000 in
theorem dX9_then_21 : decode cX9_then 21 = .ok (.invokevirtual 75, 3) := by decide +kernel
set_option maxRecDepth 20000 in
theorem dX9_then_24 : decode cX9_then 24 = .ok (.ireturn, 1) := by decide +kernel
set_option maxRecDepth 20000 in
theorem dX9_then_25 : decode cX9_then 25 = .ok (.aload_n 0, 1) := by decide +kernel
set_option maxRecDepth 20000 in
theorem dX9_then_26 : decode cX9_then 26 = .ok (.getfield 36, 3) := by decide +kernel
set_option maxRecDepth 20000 in
theorem dX9_then_29 : decode cX9_then 29 = .ok (.iload_n 1, 1) := by decide +kernel
set_option maxRecDepth 20000 in
theorem dX9_then_30 : decode cX9_then 30 = .ok (.invokevirtual 190, 3) := by decide +kernel
set_option maxRecDepth 20000 in
theorem dX9_then_33 : decode cX9_then 33 = .ok (.astore_n 3, 1) := by decide +kernel
set_option maxRecDepth 20000 in
theorem dX9_then_34 : decode cX9_then 34 = .ok (.iload_n 2, 1) := by decide +kernel
set_option maxRecDepth 20000 in
theorem dX9_then_35 : decode cX9_then 35 = .ok (.tableswitch 64 0 4 #[33, 40, 45, 52, 59], 33) := by decide +kernel
set_option maxRecDepth 20000 in
theorem dX9_then_68 : decode cX9_then 68 = .ok (.aload_n 3, 1) := by decide +kernel
set_option maxRecDepth 20000 in
theorem dX9_then_69 : decode cX9_then 69 = .ok (.getfield 79, 3) := by decide +kernel
set_option maxRecDepth 20000 in
theorem dX9_then_72 : decode cX9_then 72 = .ok (.iconst 0, 1) := by decide +kernel
set_option maxRecDepth 20000 in
theorem dX9_then_73 : decode cX9_then 73 = .ok (.iaload, 1) := by decide +kernel
set_option maxRecDepth 20000 in
theorem dX9_then_74 : decode cX9_then 74 = .ok (.ireturn, 1) := by decide +kernel
set_option maxRecDepth 20000 in
theorem dX9_then_75 : decode cX9_then 75 = .ok (.aload_n 3, 1) := by decide +kernel
set_option maxRecDepth 20000 in
theorem dX9_then_76 : decode cX9_then 76 = .ok (.getfield 194, 3) := by decide +kernel
set_option maxRecDepth 20000 in
theorem dX9_then_79 : decode cX9_then 79 = .ok (.ireturn, 1) := by decide +kernel
set_option maxRecDepth 20000 in
theorem dX9_then_80 : decode cX9_then 80 = .ok (.aload_n 3, 1) := by decide +kernel
set_option maxRecDepth 20000 in
theorem dX9_then_81 : decode cX9_then 81 = .ok (.getfield 79, 3) := by decide +kernel
set_option maxRecDepth 20000 in
theorem dX9_then_84 : decode cX9_then 84 = .ok (.iconst 2, 1) := by decide +kernel
set_option maxRecDepth 20000 in
theorem dX9_then_85 : decode cX9_then 85 = .ok (.iaload, 1) := by decide +kernel
set_option maxRecDepth 20000 in
theorem dX9_then_86 : decode cX9_then 86 = .ok (.ireturn, 1) := by decide +kernel
set_option maxRecDepth 20000 in
theorem dX9_then_87 : decode cX9_then 87 = .ok (.aload_n 3, 1) := by decide +kernel
set_option maxRecDepth 20000 in
theorem dX9_then_88 : decode cX9_then 88 = .ok (.getfield 79, 3) := by decide +kernel
set_option maxRecDepth 20000 in
theorem dX9_then_91 : decode cX9_then 91 = .ok (.iconst 3, 1) := by decide +kernel
set_option maxRecDepth 20000 in
theorem dX9_then_92 : decode cX9_then 92 = .ok (.iaload, 1) := by decide +kernel
set_option maxRecDepth 20000 in
theorem dX9_then_93 : decode cX9_then 93 = .ok (.ireturn, 1) := by decide +kernel
set_option maxRecDepth 20000 in
theorem dX9_then_94 : decode cX9_then 94 = .ok (.aload_n 3, 1) := by decide +kernel
set_option maxRecDepth 20000 in
theorem dX9_then_95 : decode cX9_then 95 = .ok (.invokevirtual 197, 3) := by decide +kernel
set_option maxRecDepth 20000 in
theorem dX9_then_98 : decode cX9_then 98 = .ok (.ireturn, 1) := by decide +kernel
set_option maxRecDepth 20000 in
theorem dX9_then_99 : decode cX9_then 99 = .ok (.aload_n 3, 1) := by decide +kernel
set_option maxRecDepth 20000 in
theorem dX9_then_100 : decode cX9_then 100 = .ok (.invokevirtual 135, 3) := by decide +kernel
set_option maxRecDepth 20000 in
theorem dX9_then_103 : decode cX9_then 103 = .ok (.ireturn, 1) := by decide +kernel
set_option maxRecDepth 20000 in
theorem dX9_thenWay_0 : decode cX9_thenWay 0 = .ok (.iload_n 1, 1) := by decide +kernel
set_option maxRecDepth 20000 in
theorem dX9_thenWay_1 : decode cX9_thenWay 1 = .ok (.iconst 0, 1) := by decide +kernel
set_option maxRecDepth 20000 in
theorem dX9_thenWay_2 : decode cX9_thenWay 2 = .ok (.bipush 60, 2) := by decide +kernel
set_option maxRecDepth 20000 in
theorem dX9_thenWay_4 : decode cX9_thenWay 4 = .ok (.invokestatic 65, 3) := by decide +kernel
set_option maxRecDepth 20000 in
theorem dX9_thenWay_7 : decode cX9_thenWay 7 = .ok (.ifCond .eq 27, 3) := by decide +kernel
set_option maxRecDepth 20000 in
theorem dX9_thenWay_10 : decode cX9_thenWay 10 = .ok (.aload_n 0, 1) := by decide +kernel
set_option maxRecDepth 20000 in
theorem dX9_thenWay_11 : decode cX9_thenWay 11 = .ok (.getfield 10, 3) := by decide +kernel
set_option maxRecDepth 20000 in
theorem dX9_thenWay_14 : decode cX9_thenWay 14 = .ok (.getfield 25, 3) := by decide +kernel
set_option maxRecDepth 20000 in
theorem dX9_thenWay_17 : decode cX9_thenWay 17 = .ok (.iload_n 2, 1) := by decide +kernel
set_option maxRecDepth 20000 in
theorem dX9_thenWay_18 : decode cX9_thenWay 18 = .ok (.invokevirtual 94, 3) := by decide +kernel
set_option maxRecDepth 20000 in
theorem dX9_thenWay_21 : decode cX9_thenWay 21 = .ok (.ifCond .eq 13, 3) := by decide +kernel
set_option maxRecDepth 20000 in
theorem dX9_thenWay_24 : decode cX9_thenWay 24 = .ok (.iload_n 3, 1) := by decide +kernel
set_option maxRecDepth 20000 in
theorem dX9_thenWay_25 : decode cX9_thenWay 25 = .ok (.iconst 0, 1) := by decide +kernel
set_option maxRecDepth 20000 in
theorem dX9_thenWay_26 : decode cX9_thenWay 26 = .ok (.bipush 6, 2) := by decide +kernel
set_option maxRecDepth 20000 in
theorem dX9_thenWay_28 : decode cX9_thenWay 28 = .ok (.invokestatic 65, 3) := by decide +kernel
set_option maxRecDepth 20000 in
theorem dX9_thenWay_31 : decode cX9_thenWay 31 = .ok (.ifCond .ne 9, 3) := by decide +kernel
set_option maxRecDepth 20000 in
theorem dX9_thenWay_34 : decode cX9_thenWay 34 = .ok (.aload_n 0, 1) := by decide +kernel
set_option maxRecDepth 20000 in
theorem dX9_thenWay_35 : decode cX9_thenWay 35 = .ok (.iconst 1, 1) := by decide +kernel
set_option maxRecDepth 20000 in
theorem dX9_thenWay_36 : decode cX9_thenWay 36 = .ok (.invokevirtual 75, 3) := by decide +kernel
set_option maxRecDepth 20000 in
theorem dX9_thenWay_39 : decode cX9_thenWay 39 = .ok (.ireturn, 1) := by decide +kernel
set_option maxRecDepth 20000 in
theorem dX9_thenWay_40 : decode cX9_thenWay 40 = .ok (.aload_n 0, 1) := by decide +kernel
set_option maxRecDepth 20000 in
theorem dX9_thenWay_41 : decode cX9_thenWay 41 = .ok (.getfield 36, 3) := by decide +kernel
set_option maxRecDepth 20000 in
theorem dX9_thenWay_44 : decode cX9_thenWay 44 = .ok (.iload_n 1, 1) := by decide +kernel
set_option maxRecDepth 20000 in
theorem dX9_thenWay_45 : decode cX9_thenWay 45 = .ok (.invokevirtual 190, 3) := by decide +kernel
set_option maxRecDepth 20000 in
theorem dX9_thenWay_48 : decode cX9_thenWay 48 = .ok (.iload_n 2, 1) := by decide +kernel
set_option maxRecDepth 20000 in
theorem dX9_thenWay_49 : decode cX9_thenWay 49 = .ok (.iload_n 3, 1) := by decide +kernel
set_option maxRecDepth 20000 in
theorem dX9_thenWay_50 : decode cX9_thenWay 50 = .ok (.invokevirtual 98, 3) := by decide +kernel
set_option maxRecDepth 20000 in
theorem dX9_thenWay_53 : decode cX9_thenWay 53 = .ok (.ireturn, 1) := by decide +kernel
set_option maxRecDepth 20000 in
theorem dX9_loss_0 : decode cX9_loss 0 = .ok (.iload_n 1, 1) := by decide +kernel
set_option maxRecDepth 20000 in
theorem dX9_loss_1 : decode cX9_loss 1 = .ok (.iconst 1, 1) := by decide +kernel
set_option maxRecDepth 20000 in
theorem dX9_loss_2 : decode cX9_loss 2 = .ok (.bipush 60, 2) := by decide +kernel
set_option maxRecDepth 20000 in
theorem dX9_loss_4 : decode cX9_loss 4 = .ok (.invokestatic 65, 3) := by decide +kernel
set_option maxRecDepth 20000 in
theorem dX9_loss_7 : decode cX9_loss 7 = .ok (.ifCond .ne 9, 3) := by decide +kernel
set_option maxRecDepth 20000 in
theorem dX9_loss_10 : decode cX9_loss 10 = .ok (.aload_n 0, 1) := by decide +kernel
set_option maxRecDepth 20000 in
theorem dX9_loss_11 : decode cX9_loss 11 = .ok (.iconst 1, 1) := by decide +kernel
set_option maxRecDepth 20000 in
theorem dX9_loss_12 : decode cX9_loss 12 = .ok (.invokevirtual 75, 3) := by decide +kernel
set_option maxRecDepth 20000 in
theorem dX9_loss_15 : decode cX9_loss 15 = .ok (.ireturn, 1) := by decide +kernel
set_option maxRecDepth 20000 in
theorem dX9_loss_16 : decode cX9_loss 16 = .ok (.aload_n 0, 1) := by decide +kernel
set_option maxRecDepth 20000 in
theorem dX9_loss_17 : decode cX9_loss 17 = .ok (.getfield 36, 3) := by decide +kernel
set_option maxRecDepth 20000 in
theorem dX9_loss_20 : decode cX9_loss 20 = .ok (.iload_n 1, 1) := by decide +kernel
set_option maxRecDepth 20000 in
theorem dX9_loss_21 : decode cX9_loss 21 = .ok (.invokevirtual 200, 3) := by decide +kernel
set_option maxRecDepth 20000 in
theorem dX9_loss_24 : decode cX9_loss 24 = .ok (.istore_n 2, 1) := by decide +kernel
set_option maxRecDepth 20000 in
theorem dX9_loss_25 : decode cX9_loss 25 = .ok (.iload_n 2, 1) := by decide +kernel
set_option maxRecDepth 20000 in
theorem dX9_loss_26 : decode cX9_loss 26 = .ok (.ifCond .le 7, 3) := by decide +kernel
set_option maxRecDepth 20000 in
theorem dX9_loss_29 : decode cX9_loss 29 = .ok (.iload_n 2, 1) := by decide +kernel
set_option maxRecDepth 20000 in
theorem dX9_loss_30 : decode cX9_loss 30 = .ok (.goto 8, 3) := by decide +kernel
set_option maxRecDepth 20000 in
theorem dX9_loss_33 : decode cX9_loss 33 = .ok (.aload_n 0, 1) := by decide +kernel
set_option maxRecDepth 20000 in
theorem dX9_loss_34 : decode cX9_loss 34 = .ok (.iconst 2, 1) := by decide +kernel
set_option maxRecDepth 20000 in
theorem dX9_loss_35 : decode cX9_loss 35 = .ok (.invokevirtual 75, 3) := by decide +kernel
set_option maxRecDepth 20000 in
theorem dX9_loss_38 : decode cX9_loss 38 = .ok (.ireturn, 1) := by decide +kernel
set_option maxRecDepth 20000 in
theorem dX9_by_0 : decode cX9_by 0 = .ok (.aload_n 0, 1) := by decide +kernel
set_option maxRecDepth 20000 in
theorem dX9_by_1 : decode cX9_by 1 = .ok (.getfield 36, 3) := by decide +kernel
set_option maxRecDepth 20000 in
theorem dX9_by_4 : decode cX9_by 4 = .ok (.iconst 1, 1) := by decide +kernel
set_option maxRecDepth 20000 in
theorem dX9_by_5 : decode cX9_by 5 = .ok (.invokevirtual 190, 3) := by decide +kernel
set_option maxRecDepth 20000 in
theorem dX9_by_8 : decode cX9_by 8 = .ok (.getfield 203, 3) := by decide +kernel
set_option maxRecDepth 20000 in
theorem dX9_by_11 : decode cX9_by 11 = .ok (.ireturn, 1) := by decide +kernel
set_option maxRecDepth 20000 in
theorem dX9_mends_0 : decode cX9_mends 0 = .ok (.iload_n 1, 1) := by decide +kernel
set_option maxRecDepth 20000 in
theorem dX9_mends_1 : decode cX9_mends 1 = .ok (.iconst 0, 1) := by decide +kernel
set_option maxRecDepth 20000 in
theorem dX9_mends_2 : decode cX9_mends 2 = .ok (.sipush 999, 3) := by decide +kernel
set_option maxRecDepth 20000 in
theorem dX9_mends_5 : decode cX9_mends 5 = .ok (.invokestatic 65, 3) := by decide +kernel
set_option maxRecDepth 20000 in
theorem dX9_mends_8 : decode cX9_mends 8 = .ok (.ifCond .eq 22, 3) := by decide +kernel
set_option maxRecDepth 20000 in
theorem dX9_mends_11 : decode cX9_mends 11 = .ok (.iload_n 2, 1) := by decide +kernel
set_option maxRecDepth 20000 in
theorem dX9_mends_12 : decode cX9_mends 12 = .ok (.iconst 0, 1) := by decide +kernel
set_option maxRecDepth 20000 in
theorem dX9_mends_13 : decode cX9_mends 13 = .ok (.bipush 60, 2) := by decide +kernel
set_option maxRecDepth 20000 in
theorem dX9_mends_15 : decode cX9_mends 15 = .ok (.invokestatic 65, 3) := by decide +kernel
set_option maxRecDepth 20000 in
theorem dX9_mends_18 : decode cX9_mends 18 = .ok (.ifCond .eq 12, 3) := by decide +kernel
set_option maxRecDepth 20000 in
theorem dX9_mends_21 : decode cX9_mends 21 = .ok (.iload_n 3, 1) := by decide +kernel
set_option maxRecDepth 20000 in
theorem dX9_mends_22 : decode cX9_mends 22 = .ok (.iconst 0, 1) := by decide +kernel
set_option maxRecDepth 20000 in
theorem dX9_mends_23 : decode cX9_mends 23 = .ok (.iconst 1, 1) := by decide +kernel
set_option maxRecDepth 20000 in
theorem dX9_mends_24 : decode cX9_mends 24 = .ok (.invokestatic 65, 3) := by decide +kernel
set_option maxRecDepth 20000 in
theorem dX9_mends_27 : decode cX9_mends 27 = .ok (.ifCond .ne 9, 3) := by decide +kernel
set_option maxRecDepth 20000 in
theorem dX9_mends_30 : decode cX9_mends 30 = .ok (.aload_n 0, 1) := by decide +kernel
set_option maxRecDepth 20000 in
theorem dX9_mends_31 : decode cX9_mends 31 = .ok (.iconst 1, 1) := by decide +kernel
set_option maxRecDepth 20000 in
theorem dX9_mends_32 : decode cX9_mends 32 = .ok (.invokevirtual 75, 3) := by decide +kernel
set_option maxRecDepth 20000 in
theorem dX9_mends_35 : decode cX9_mends 35 = .ok (.ireturn, 1) := by decide +kernel
set_option maxRecDepth 20000 in
theorem dX9_mends_36 : decode cX9_mends 36 = .ok (.aload_n 0, 1) := by decide +kernel
set_option maxRecDepth 20000 in
theorem dX9_mends_37 : decode cX9_mends 37 = .ok (.getfield 36, 3) := by decide +kernel
set_option maxRecDepth 20000 in
theorem dX9_mends_40 : decode cX9_mends 40 = .ok (.iload_n 1, 1) := by decide +kernel
set_option maxRecDepth 20000 in
theorem dX9_mends_41 : decode cX9_mends 41 = .ok (.iload_n 2, 1) := by decide +kernel
set_option maxRecDepth 20000 in
theorem dX9_mends_42 : decode cX9_mends 42 = .ok (.invokevirtual 206, 3) := by decide +kernel
set_option maxRecDepth 20000 in
theorem dX9_mends_45 : decode cX9_mends 45 = .ok (.iload_n 3, 1) := by decide +kernel
set_option maxRecDepth 20000 in
theorem dX9_mends_46 : decode cX9_mends 46 = .ok (.ifCond .ne 13, 3) := by decide +kernel
set_option maxRecDepth 20000 in
theorem dX9_mends_49 : decode cX9_mends 49 = .ok (.aload_n 0, 1) := by decide +kernel
set_option maxRecDepth 20000 in
theorem dX9_mends_50 : decode cX9_mends 50 = .ok (.getfield 36, 3) := by decide +kernel
set_option maxRecDepth 20000 in
theorem dX9_mends_53 : decode cX9_mends 53 = .ok (.getfield 210, 3) := by decide +kernel
set_option maxRecDepth 20000 in
theorem dX9_mends_56 : decode cX9_mends 56 = .ok (.goto 10, 3) := by decide +kernel
set_option maxRecDepth 20000 in
theorem dX9_mends_59 : decode cX9_mends 59 = .ok (.aload_n 0, 1) := by decide +kernel
set_option maxRecDepth 20000 in
theorem dX9_mends_60 : decode cX9_mends 60 = .ok (.getfield 36, 3) := by decide +kernel
set_option maxRecDepth 20000 in
theorem dX9_mends_63 : decode cX9_mends 63 = .ok (.getfield 213, 3) := by decide +kernel
set_option maxRecDepth 20000 in
theorem dX9_mends_66 : decode cX9_mends 66 = .ok (.ireturn, 1) := by decide +kernel
set_option maxRecDepth 20000 in
theorem dX9_hangs_0 : decode cX9_hangs 0 = .ok (.iload_n 1, 1) := by decide +kernel
set_option maxRecDepth 20000 in
theorem dX9_hangs_1 : decode cX9_hangs 1 = .ok (.iconst 0, 1) := by decide +kernel
set_option maxRecDepth 20000 in
theorem dX9_hangs_2 : decode cX9_hangs 2 = .ok (.bipush 60, 2) := by decide +kernel
set_option maxRecDepth 20000 in
theorem dX9_hangs_4 : decode cX9_hangs 4 = .ok (.invokestatic 65, 3) := by decide +kernel
set_option maxRecDepth 20000 in
theorem dX9_hangs_7 : decode cX9_hangs 7 = .ok (.ifCond .eq 8, 3) := by decide +kernel
set_option maxRecDepth 20000 in
theorem dX9_hangs_10 : decode cX9_hangs 10 = .ok (.iload_n 2, 1) := by decide +kernel
set_option maxRecDepth 20000 in
theorem dX9_hangs_11 : decode cX9_hangs 11 = .ok (.iconst (-1), 1) := by decide +kernel
set_option maxRecDepth 20000 in
theorem dX9_hangs_12 : decode cX9_hangs 12 = .ok (.if_icmp .ge 9, 3) := by decide +kernel
set_option maxRecDepth 20000 in
theorem dX9_hangs_15 : decode cX9_hangs 15 = .ok (.aload_n 0, 1) := by decide +kernel
set_option maxRecDepth 20000 in
theorem dX9_hangs_16 : decode cX9_hangs 16 = .ok (.iconst 1, 1) := by decide +kernel
set_option maxRecDepth 20000 in
theorem dX9_hangs_17 : decode cX9_hangs 17 = .ok (.invokevirtual 75, 3) := by decide +kernel
set_option maxRecDepth 20000 in
theorem dX9_hangs_20 : decode cX9_hangs 20 = .ok (.ireturn, 1) := by decide +kernel
set_option maxRecDepth 20000 in
theorem dX9_hangs_21 : decode cX9_hangs 21 = .ok (.aload_n 0, 1) := by decide +kernel
set_option maxRecDepth 20000 in
theorem dX9_hangs_22 : decode cX9_hangs 22 = .ok (.getfield 10, 3) := by decide +kernel
set_option maxRecDepth 20000 in
theorem dX9_hangs_25 : decode cX9_hangs 25 = .ok (.getfield 25, 3) := by decide +kernel
set_option maxRecDepth 20000 in
theorem dX9_hangs_28 : decode cX9_hangs 28 = .ok (.invokevirtual 216, 3) := by decide +kernel
set_option maxRecDepth 20000 in
theorem dX9_hangs_31 : decode cX9_hangs 31 = .ok (.istore_n 3, 1) := by decide +kernel
set_option maxRecDepth 20000 in
theorem dX9_hangs_32 : decode cX9_hangs 32 = .ok (.iload_n 3, 1) := by decide +kernel
set_option maxRecDepth 20000 in
theorem dX9_hangs_33 : decode cX9_hangs 33 = .ok (.iconst 4, 1) := by decide +kernel
set_option maxRecDepth 20000 in
theorem dX9_hangs_34 : decode cX9_hangs 34 = .ok (.if_icmp .le 9, 3) := by decide +kernel
set_option maxRecDepth 20000 in
theorem dX9_hangs_37 : decode cX9_hangs 37 = .ok (.aload_n 0, 1) := by decide +kernel
set_option maxRecDepth 20000 in
theorem dX9_hangs_38 : decode cX9_hangs 38 = .ok (.iconst 3, 1) := by decide +kernel
set_option maxRecDepth 20000 in
theorem dX9_hangs_39 : decode cX9_hangs 39 = .ok (.invokevirtual 75, 3) := by decide +kernel
set_option maxRecDepth 20000 in
theorem dX9_hangs_42 : decode cX9_hangs 42 = .ok (.ireturn, 1) := by decide +kernel
set_option maxRecDepth 20000 in
theorem dX9_hangs_43 : decode cX9_hangs 43 = .ok (.iload_n 2, 1) := by decide +kernel
set_option maxRecDepth 20000 in
theorem dX9_hangs_44 : decode cX9_hangs 44 = .ok (.iload_n 3, 1) := by decide +kernel
set_option maxRecDepth 20000 in
theorem dX9_hangs_45 : decode cX9_hangs 45 = .ok (.if_icmp .lt 9, 3) := by decide +kernel
set_option maxRecDepth 20000 in
theorem dX9_hangs_48 : decode cX9_hangs 48 = .ok (.aload_n 0, 1) := by decide +kernel
set_option maxRecDepth 20000 in
theorem dX9_hangs_49 : decode cX9_hangs 49 = .ok (.iconst 2, 1) := by decide +kernel
set_option maxRecDepth 20000 in
theorem dX9_hangs_50 : decode cX9_hangs 50 = .ok (.invokevirtual 75, 3) := by decide +kernel
set_option maxRecDepth 20000 in
theorem dX9_hangs_53 : decode cX9_hangs 53 = .ok (.ireturn, 1) := by decide +kernel
set_option maxRecDepth 20000 in
theorem dX9_hangs_54 : decode cX9_hangs 54 = .ok (.aload_n 0, 1) := by decide +kernel
set_option maxRecDepth 20000 in
theorem dX9_hangs_55 : decode cX9_hangs 55 = .ok (.getfield 36, 3) := by decide +kernel
set_option maxRecDepth 20000 in
theorem dX9_hangs_58 : decode cX9_hangs 58 = .ok (.iload_n 1, 1) := by decide +kernel
set_option maxRecDepth 20000 in
theorem dX9_hangs_59 : decode cX9_hangs 59 = .ok (.invokevirtual 219, 3) := by decide +kernel
set_option maxRecDepth 20000 in
theorem dX9_hangs_62 : decode cX9_hangs 62 = .ok (.iload_n 2, 1) := by decide +kernel
set_option maxRecDepth 20000 in
theorem dX9_hangs_63 : decode cX9_hangs 63 = .ok (.ifCond .ge 13, 3) := by decide +kernel
set_option maxRecDepth 20000 in
theorem dX9_hangs_66 : decode cX9_hangs 66 = .ok (.aload_n 0, 1) := by decide +kernel
set_option maxRecDepth 20000 in
theorem dX9_hangs_67 : decode cX9_hangs 67 = .ok (.getfield 36, 3) := by decide +kernel
set_option maxRecDepth 20000 in
theorem dX9_hangs_70 : decode cX9_hangs 70 = .ok (.getfield 213, 3) := by decide +kernel
set_option maxRecDepth 20000 in
theorem dX9_hangs_73 : decode cX9_hangs 73 = .ok (.goto 12, 3) := by decide +kernel
set_option maxRecDepth 20000 in
theorem dX9_hangs_76 : decode cX9_hangs 76 = .ok (.aload_n 0, 1) := by decide +kernel
set_option maxRecDepth 20000 in
theorem dX9_hangs_77 : decode cX9_hangs 77 = .ok (.getfield 36, 3) := by decide +kernel
set_option maxRecDepth 20000 in
theorem dX9_hangs_80 : decode cX9_hangs 80 = .ok (.getfield 222, 3) := by decide +kernel
set_option maxRecDepth 20000 in
theorem dX9_hangs_83 : decode cX9_hangs 83 = .ok (.iload_n 2, 1) := by decide +kernel
set_option maxRecDepth 20000 in
theorem dX9_hangs_84 : decode cX9_hangs 84 = .ok (.iaload, 1) := by decide +kernel
set_option maxRecDepth 20000 in
theorem dX9_hangs_85 : decode cX9_hangs 85 = .ok (.ireturn, 1) := by decide +kernel
set_option maxRecDepth 20000 in
theorem dX9_dusk_0 : decode cX9_dusk 0 = .ok (.iload_n 1, 1) := by decide +kernel
set_option maxRecDepth 20000 in
theorem dX9_dusk_1 : decode cX9_dusk 1 = .ok (.iconst 0, 1) := by decide +kernel
set_option maxRecDepth 20000 in
theorem dX9_dusk_2 : decode cX9_dusk 2 = .ok (.bipush 11, 2) := by decide +kernel
set_option maxRecDepth 20000 in
theorem dX9_dusk_4 : decode cX9_dusk 4 = .ok (.invokestatic 65, 3) := by decide +kernel
set_option maxRecDepth 20000 in
theorem dX9_dusk_7 : decode cX9_dusk 7 = .ok (.ifCond .eq 14, 3) := by decide +kernel
set_option maxRecDepth 20000 in
theorem dX9_dusk_10 : decode cX9_dusk 10 = .ok (.iload_n 2, 1) := by decide +kernel
set_option maxRecDepth 20000 in
theorem dX9_dusk_11 : decode cX9_dusk 11 = .ok (.iconst 0, 1) := by decide +kernel
set_option maxRecDepth 20000 in
theorem dX9_dusk_12 : decode cX9_dusk 12 = .ok (.sipush 1439, 3) := by decide +kernel
set_option maxRecDepth 20000 in
theorem dX9_dusk_15 : decode cX9_dusk 15 = .ok (.invokestatic 65, 3) := by decide +kernel
set_option maxRecDepth 20000 in
theorem dX9_dusk_18 : decode cX9_dusk 18 = .ok (.ifCond .ne 9, 3) := by decide +kernel
set_option maxRecDepth 20000 in
theorem dX9_dusk_21 : decode cX9_dusk 21 = .ok (.aload_n 0, 1) := by decide +kernel
set_option maxRecDepth 20000 in
theorem dX9_dusk_22 : decode cX9_dusk 22 = .ok (.iconst 1, 1) := by decide +kernel
set_option maxRecDepth 20000 in
theorem dX9_dusk_23 : decode cX9_dusk 23 = .ok (.invokevirtual 75, 3) := by decide +kernel
set_option maxRecDepth 20000 in
theorem dX9_dusk_26 : decode cX9_dusk 26 = .ok (.ireturn, 1) := by decide +kernel
set_option maxRecDepth 20000 in
theorem dX9_dusk_27 : decode cX9_dusk 27 = .ok (.aload_n 0, 1) := by decide +kernel
set_option maxRecDepth 20000 in
theorem dX9_dusk_28 : decode cX9_dusk 28 = .ok (.getfield 10, 3) := by decide +kernel
set_option maxRecDepth 20000 in
theorem dX9_dusk_31 : decode cX9_dusk 31 = .ok (.getfield 225, 3) := by decide +kernel
set_option maxRecDepth 20000 in
theorem dX9_dusk_34 : decode cX9_dusk 34 = .ok (.iload_n 1, 1) := by decide +kernel
set_option maxRecDepth 20000 in
theorem dX9_dusk_35 : decode cX9_dusk 35 = .ok (.iaload, 1) := by decide +kernel
set_option maxRecDepth 20000 in
theorem dX9_dusk_36 : decode cX9_dusk 36 = .ok (.istore_n 3, 1) := by decide +kernel
set_option maxRecDepth 20000 in
theorem dX9_dusk_37 : decode cX9_dusk 37 = .ok (.aload_n 0, 1) := by decide +kernel
set_option maxRecDepth 20000 in
theorem dX9_dusk_38 : decode cX9_dusk 38 = .ok (.getfield 10, 3) := by decide +kernel
set_option maxRecDepth 20000 in
theorem dX9_dusk_41 : decode cX9_dusk 41 = .ok (.getfield 225, 3) := by decide +kernel
set_option maxRecDepth 20000 in
theorem dX9_dusk_44 : decode cX9_dusk 44 = .ok (.iload_n 1, 1) := by decide +kernel
set_option maxRecDepth 20000 in
theorem dX9_dusk_45 : decode cX9_dusk 45 = .ok (.iload_n 2, 1) := by decide +kernel
set_option maxRecDepth 20000 in
theorem dX9_dusk_46 : decode cX9_dusk 46 = .ok (.iastore, 1) := by decide +kernel
set_option maxRecDepth 20000 in
theorem dX9_dusk_47 : decode cX9_dusk 47 = .ok (.iload_n 3, 1) := by decide +kernel
set_option maxRecDepth 20000 in
theorem dX9_dusk_48 : decode cX9_dusk 48 = .ok (.ireturn, 1) := by decide +kernel
set_option maxRecDepth 20000 in
theorem dX9_harm_0 : decode cX9_harm 0 = .ok (.iload_n 1, 1) := by decide +kernel
set_option maxRecDepth 20000 in
theorem dX9_harm_1 : decode cX9_harm 1 = .ok (.iconst 0, 1) := by decide +kernel
set_option maxRecDepth 20000 in
theorem dX9_harm_2 : decode cX9_harm 2 = .ok (.sipush 1439, 3) := by decide +kernel
set_option maxRecDepth 20000 in
theorem dX9_harm_5 : decode cX9_harm 5 = .ok (.invokestatic 65, 3) := by decide +kernel
set_option maxRecDepth 20000 in
theorem dX9_harm_8 : decode cX9_harm 8 = .ok (.ifCond .eq 14, 3) := by decide +kernel
set_option maxRecDepth 20000 in
theorem dX9_harm_11 : decode cX9_harm 11 = .ok (.aload_n 0, 1) := by decide +kernel
set_option maxRecDepth 20000 in
theorem dX9_harm_12 : decode cX9_harm 12 = .ok (.getfield 10, 3) := by decide +kernel
set_option maxRecDepth 20000 in
theorem dX9_harm_15 : decode cX9_harm 15 = .ok (.iload_n 1, 1) := by decide +kernel
set_option maxRecDepth 20000 in
theorem dX9_harm_16 : decode cX9_harm 16 = .ok (.invokevirtual 228, 3) := by decide +kernel
set_option maxRecDepth 20000 in
theorem dX9_harm_19 : decode cX9_harm 19 = .ok (.goto 8, 3) := by decide +kernel
set_option maxRecDepth 20000 in
theorem dX9_harm_22 : decode cX9_harm 22 = .ok (.aload_n 0, 1) := by decide +kernel
set_option maxRecDepth 20000 in
theorem dX9_harm_23 : decode cX9_harm 23 = .ok (.iconst 1, 1) := by decide +kernel
set_option maxRecDepth 20000 in
theorem dX9_harm_24 : decode cX9_harm 24 = .ok (.invokevirtual 75, 3) := by decide +kernel
set_option maxRecDepth 20000 in
theorem dX9_harm_27 : decode cX9_harm 27 = .ok (.ireturn, 1) := by decide +kernel
set_option maxRecDepth 20000 in
theorem dX9_clock_0 : decode cX9_clock 0 = .ok (.iconst 0, 1) := by decide +kernel
set_option maxRecDepth 20000 in
theorem dX9_clock_1 : decode cX9_clock 1 = .ok (.istore_n 1, 1) := by decide +kernel
set_option maxRecDepth 20000 in
theorem dX9_clock_2 : decode cX9_clock 2 = .ok (.aload_n 0, 1) := by decide +kernel
set_option maxRecDepth 20000 in
theorem dX9_clock_3 : decode cX9_clock 3 = .ok (.getfield 10, 3) := by decide +kernel
set_option maxRecDepth 20000 in
theorem dX9_clock_6 : decode cX9_clock 6 = .ok (.iconst 0, 1) := by decide +kernel
set_option maxRecDepth 20000 in
theorem dX9_clock_7 : decode cX9_clock 7 = .ok (.invokevirtual 228, 3) := by decide +kernel
set_option maxRecDepth 20000 in
theorem dX9_clock_10 : decode cX9_clock 10 = .ok (.istore_n 2, 1) := by decide +kernel
set_option maxRecDepth 20000 in
theorem dX9_clock_11 : decode cX9_clock 11 = .ok (.iconst 1, 1) := by decide +kernel
set_option maxRecDepth 20000 in
theorem dX9_clock_12 : decode cX9_clock 12 = .ok (.istore_n 3, 1) := by decide +kernel
set_option maxRecDepth 20000 in
theorem dX9_clock_13 : decode cX9_clock 13 = .ok (.iload_n 3, 1) := by decide +kernel
set_option maxRecDepth 20000 in
theorem dX9_clock_14 : decode cX9_clock 14 = .ok (.sipush 1440, 3) := by decide +kernel
set_option maxRecDepth 20000 in
theorem dX9_clock_17 : decode cX9_clock 17 = .ok (.if_icmp .ge 30, 3) := by decide +kernel
set_option maxRecDepth 20000 in
theorem dX9_clock_20 : decode cX9_clock 20 = .ok (.aload_n 0, 1) := by decide +kernel
set_option maxRecDepth 20000 in
theorem dX9_clock_21 : decode cX9_clock 21 = .ok (.getfield 10, 3) := by decide +kernel
set_option maxRecDepth 20000 in
theorem dX9_clock_24 : decode cX9_clock 24 = .ok (.iload_n 3, 1) := by decide +kernel
set_option maxRecDepth 20000 in
theorem dX9_clock_25 : decode cX9_clock 25 = .ok (.invokevirtual 228, 3) := by decide +kernel
set_option maxRecDepth 20000 in
theorem dX9_clock_28 : decode cX9_clock 28 = .ok (.istore 4, 2) := by decide +kernel
set_option maxRecDepth 20000 in
theorem dX9_clock_30 : decode cX9_clock 30 = .ok (.iload 4, 2) := by decide +kernel
set_option maxRecDepth 20000 in
theorem dX9_clock_32 : decode cX9_clock 32 = .ok (.iload_n 2, 1) := by decide +kernel
set_option maxRecDepth 20000 in
theorem dX9_clock_33 : decode cX9_clock 33 = .ok (.if_icmp .ge 8, 3) := by decide +kernel
set_option maxRecDepth 20000 in
theorem dX9_clock_36 : decode cX9_clock 36 = .ok (.iload_n 3, 1) := by decide +kernel
set_option maxRecDepth 20000 in
theorem dX9_clock_37 : decode cX9_clock 37 = .ok (.istore_n 1, 1) := by decide +kernel
set_option maxRecDepth 20000 in
theorem dX9_clock_38 : decode cX9_clock 38 = .ok (.iload 4, 2) := by decide +kernel
set_option maxRecDepth 20000 in
theorem dX9_clock_40 : decode cX9_clock 40 = .ok (.istore_n 2, 1) := by decide +kernel
set_option maxRecDepth 20000 in
theorem dX9_clock_41 : decode cX9_clock 41 = .ok (.iinc 3 1, 3) := by decide +kernel
set_option maxRecDepth 20000 in
theorem dX9_clock_44 : decode cX9_clock 44 = .ok (.goto (-31), 3) := by decide +kernel
set_option maxRecDepth 20000 in
theorem dX9_clock_47 : decode cX9_clock 47 = .ok (.iload_n 1, 1) := by decide +kernel
set_option maxRecDepth 20000 in
theorem dX9_clock_48 : decode cX9_clock 48 = .ok (.ireturn, 1) := by decide +kernel
set_option maxRecDepth 20000 in
theorem dX9_odds_0 : decode cX9_odds 0 = .ok (.iload_n 1, 1) := by decide +kernel
set_option maxRecDepth 20000 in
theorem dX9_odds_1 : decode cX9_odds 1 = .ok (.bipush 10, 2) := by decide +kernel
set_option maxRecDepth 20000 in
theorem dX9_odds_3 : decode cX9_odds 3 = .ok (.idiv, 1) := by decide +kernel
set_option maxRecDepth 20000 in
theorem dX9_odds_4 : decode cX9_odds 4 = .ok (.istore 4, 2) := by decide +kernel
set_option maxRecDepth 20000 in
theorem dX9_odds_6 : decode cX9_odds 6 = .ok (.iload_n 1, 1) := by decide +kernel
set_option maxRecDepth 20000 in
theorem dX9_odds_7 : decode cX9_odds 7 = .ok (.bipush 10, 2) := by decide +kernel
set_option maxRecDepth 20000 in
theorem dX9_odds_9 : decode cX9_odds 9 = .ok (.irem, 1) := by decide +kernel
set_option maxRecDepth 20000 in
theorem dX9_odds_10 : decode cX9_odds 10 = .ok (.istore 5, 2) := by decide +kernel
set_option maxRecDepth 20000 in
theorem dX9_odds_12 : decode cX9_odds 12 = .ok (.iload 5, 2) := by decide +kernel
set_option maxRecDepth 20000 in
theorem dX9_odds_14 : decode cX9_odds 14 = .ok (.iconst 1, 1) := by decide +kernel
set_option maxRecDepth 20000 in
theorem dX9_odds_15 : decode cX9_odds 15 = .ok (.bipush 9, 2) := by decide +kernel
set_option maxRecDepth 20000 in
theorem dX9_odds_17 : decode cX9_odds 17 = .ok (.invokestatic 65, 3) := by decide +kernel
set_option maxRecDepth 20000 in
theorem dX9_odds_20 : decode cX9_odds 20 = .ok (.ifCond .eq 33, 3) := by decide +kernel
set_option maxRecDepth 20000 in
theorem dX9_odds_23 : decode cX9_odds 23 = .ok (.iload 4, 2) := by decide +kernel
set_option maxRecDepth 20000 in
theorem dX9_odds_25 : decode cX9_odds 25 = .ok (.iconst 0, 1) := by decide +kernel
set_option maxRecDepth 20000 in
theorem dX9_odds_26 : decode cX9_odds 26 = .ok (.iload 5, 2) := by decide +kernel
set_option maxRecDepth 20000 in
theorem dX9_odds_28 : decode cX9_odds 28 = .ok (.invokestatic 65, 3) := by decide +kernel
set_option maxRecDepth 20000 in
theorem dX9_odds_31 : decode cX9_odds 31 = .ok (.ifCond .eq 22, 3) := by decide +kernel
set_option maxRecDepth 20000 in
theorem dX9_odds_34 : decode cX9_odds 34 = .ok (.iload_n 2, 1) := by decide +kernel
set_option maxRecDepth 20000 in
theorem dX9_odds_35 : decode cX9_odds 35 = .ok (.iconst 0, 1) := by decide +kernel
set_option maxRecDepth 20000 in
theorem dX9_odds_36 : decode cX9_odds 36 = .ok (.bipush 12, 2) := by decide +kernel
set_option maxRecDepth 20000 in
theorem dX9_odds_38 : decode cX9_odds 38 = .ok (.invokestatic 65, 3) := by decide +kernel
set_option maxRecDepth 20000 in
theorem dX9_odds_41 : decode cX9_odds 41 = .ok (.ifCond .eq 12, 3) := by decide +kernel
set_option maxRecDepth 20000 in
theorem dX9_odds_44 : decode cX9_odds 44 = .ok (.iload_n 3, 1) := by decide +kernel
set_option maxRecDepth 20000 in
theorem dX9_odds_45 : decode cX9_odds 45 = .ok (.iconst 0, 1) := by decide +kernel
set_option maxRecDepth 20000 in
theorem dX9_odds_46 : decode cX9_odds 46 = .ok (.iconst 1, 1) := by decide +kernel
set_option maxRecDepth 20000 in
theorem dX9_odds_47 : decode cX9_odds 47 = .ok (.invokestatic 65, 3) := by decide +kernel
set_option maxRecDepth 20000 in
theorem dX9_odds_50 : decode cX9_odds 50 = .ok (.ifCond .ne 10, 3) := by decide +kernel
set_option maxRecDepth 20000 in
theorem dX9_odds_53 : decode cX9_odds 53 = .ok (.aload_n 0, 1) := by decide +kernel
set_option maxRecDepth 20000 in
theorem dX9_odds_54 : decode cX9_odds 54 = .ok (.iconst 1, 1) := by decide +kernel
set_option maxRecDepth 20000 in
theorem dX9_odds_55 : decode cX9_odds 55 = .ok (.invokevirtual 75, 3) := by decide +kernel
set_option maxRecDepth 20000 in
theorem dX9_odds_58 : decode cX9_odds 58 = .ok (.i2l, 1) := by decide +kernel
set_option maxRecDepth 20000 in
theorem dX9_odds_59 : decode cX9_odds 59 = .ok (.lreturn, 1) := by decide +kernel
set_option maxRecDepth 20000 in
theorem dX9_odds_60 : decode cX9_odds 60 = .ok (.iconst 1, 1) := by decide +kernel
set_option maxRecDepth 20000 in
theorem dX9_odds_61 : decode cX9_odds 61 = .ok (.iload 5, 2) := by decide +kernel
set_option maxRecDepth 20000 in
theorem dX9_odds_63 : decode cX9_odds 63 = .ok (.iload 4, 2) := by decide +kernel
set_option maxRecDepth 20000 in
theorem dX9_odds_65 : decode cX9_odds 65 = .ok (.isub, 1) := by decide +kernel
set_option maxRecDepth 20000 in
theorem dX9_odds_66 : decode cX9_odds 66 = .ok (.iload 5, 2) := by decide +kernel
set_option maxRecDepth 20000 in
theorem dX9_odds_68 : decode cX9_odds 68 = .ok (.invokestatic 231, 3) := by decide +kernel
set_option maxRecDepth 20000 in
theorem dX9_odds_71 : decode cX9_odds 71 = .ok (.invokestatic 234, 3) := by decide +kernel
set_option maxRecDepth 20000 in
theorem dX9_odds_74 : decode cX9_odds 74 = .ok (.istore 6, 2) := by decide +kernel
set_option maxRecDepth 20000 in
theorem dX9_odds_76 : decode cX9_odds 76 = .ok (.iload_n 3, 1) := by decide +kernel
set_option maxRecDepth 20000 in
theorem dX9_odds_77 : decode cX9_odds 77 = .ok (.ifCond .ne 11, 3) := by decide +kernel
set_option maxRecDepth 20000 in
theorem dX9_odds_80 : decode cX9_odds 80 = .ok (.iload 5, 2) := by decide +kernel
set_option maxRecDepth 20000 in
theorem dX9_odds_82 : decode cX9_odds 82 = .ok (.iload 4, 2) := by decide +kernel
set_option maxRecDepth 20000 in
theorem dX9_odds_84 : decode cX9_odds 84 = .ok (.isub, 1) := by decide +kernel
set_option maxRecDepth 20000 in
theorem dX9_odds_85 : decode cX9_odds 85 = .ok (.goto 5, 3) := by decide +kernel
set_option maxRecDepth 20000 in
theorem dX9_odds_88 : decode cX9_odds 88 = .ok (.iload 5, 2) := by decide +kernel
set_option maxRecDepth 20000 in
theorem dX9_odds_90 : decode cX9_odds 90 = .ok (.iload 6, 2) := by decide +kernel
set_option maxRecDepth 20000 in
theorem dX9_odds_92 : decode cX9_odds 92 = .ok (.idiv, 1) := by decide +kernel
set_option maxRecDepth 20000 in
theorem dX9_odds_93 : decode cX9_odds 93 = .ok (.iload_n 2, 1) := by decide +kernel
set_option maxRecDepth 20000 in
theorem dX9_odds_94 : decode cX9_odds 94 = .ok (.invokestatic 239, 3) := by decide +kernel
set_option maxRecDepth 20000 in
theorem dX9_odds_97 : decode cX9_odds 97 = .ok (.lreturn, 1) := by decide +kernel
set_option maxRecDepth 20000 in
theorem dX9_yard_0 : decode cX9_yard 0 = .ok (.iload_n 2, 1) := by decide +kernel
set_option maxRecDepth 20000 in
theorem dX9_yard_1 : decode cX9_yard 1 = .ok (.iconst 0, 1) := by decide +kernel
set_option maxRecDepth 20000 in
theorem dX9_yard_2 : decode cX9_yard 2 = .ok (.bipush 99, 2) := by decide +kernel
set_option maxRecDepth 20000 in
theorem dX9_yard_4 : decode cX9_yard 4 = .ok (.invokestatic 65, 3) := by decide +kernel
set_option maxRecDepth 20000 in
theorem dX9_yard_7 : decode cX9_yard 7 = .ok (.ifCond .eq 17, 3) := by decide +kernel
set_option maxRecDepth 20000 in
theorem dX9_yard_10 : decode cX9_yard 10 = .ok (.iload_n 3, 1) := by decide +kernel
set_option maxRecDepth 20000 in
theorem dX9_yard_11 : decode cX9_yard 11 = .ok (.iconst 0, 1) := by decide +kernel
set_option maxRecDepth 20000 in
theorem dX9_yard_12 : decode cX9_yard 12 = .ok (.bipush 99, 2) := by decide +kernel
set_option maxRecDepth 20000 in
theorem dX9_yard_14 : decode cX9_yard 14 = .ok (.invokestatic 65, 3) := by decide +kernel
set_option maxRecDepth 20000 in
theorem dX9_yard_17 : decode cX9_yard 17 = .ok (.ifCond .eq 7, 3) := by decide +kernel
set_option maxRecDepth 20000 in
theorem dX9_yard_20 : decode cX9_yard 20 = .ok (.iconst 1, 1) := by decide +kernel
set_option maxRecDepth 20000 in
theorem dX9_yard_21 : decode cX9_yard 21 = .ok (.goto 4, 3) := by decide +kernel
set_option maxRecDepth 20000 in
theorem dX9_yard_24 : decode cX9_yard 24 = .ok (.iconst 0, 1) := by decide +kernel
set_option maxRecDepth 20000 in
theorem dX9_yard_25 : decode cX9_yard 25 = .ok (.istore 5, 2) := by decide +kernel
set_option maxRecDepth 20000 in
theorem dX9_yard_27 : decode cX9_yard 27 = .ok (.iload_n 1, 1) := by decide +kernel
set_option maxRecDepth 20000 in
theorem dX9_yard_28 : decode cX9_yard 28 = .ok (.iconst 0, 1) := by decide +kernel
set_option maxRecDepth 20000 in
theorem dX9_yard_29 : decode cX9_yard 29 = .ok (.iconst 5, 1) := by decide +kernel
set_option maxRecDepth 20000 in
theorem dX9_yard_30 : decode cX9_yard 30 = .ok (.invokestatic 65, 3) := by decide +kernel
set_option maxRecDepth 20000 in
theorem dX9_yard_33 : decode cX9_yard 33 = .ok (.ifCond .eq 18, 3) := by decide +kernel
set_option maxRecDepth 20000 in
theorem dX9_yard_36 : decode cX9_yard 36 = .ok (.iload 5, 2) := by decide +kernel
set_option maxRecDepth 20000 in
theorem dX9_yard_38 : decode cX9_yard 38 = .ok (.ifCond .eq 13, 3) := by decide +kernel
set_option maxRecDepth 20000 in
theorem dX9_yard_41 : decode cX9_yard 41 = .ok (.iload 4, 2) := by decide +kernel
set_option maxRecDepth 20000 in
theorem dX9_yard_43 : decode cX9_yard 43 = .ok (.iconst 0, 1) := by decide +kernel
set_option maxRecDepth 20000 in
theorem dX9_yard_44 : decode cX9_yard 44 = .ok (.iconst 1, 1) := by decide +kernel
set_option maxRecDepth 20000 in
theorem dX9_yard_45 : decode cX9_yard 45 = .ok (.invokestatic 65, 3) := by decide +kernel
set_option maxRecDepth 20000 in
theorem dX9_yard_48 : decode cX9_yard 48 = .ok (.ifCond .ne 9, 3) := by decide +kernel
set_option maxRecDepth 20000 in
theorem dX9_yard_51 : decode cX9_yard 51 = .ok (.aload_n 0, 1) := by decide +kernel
set_option maxRecDepth 20000 in
theorem dX9_yard_52 : decode cX9_yard 52 = .ok (.iconst 1, 1) := by decide +kernel
set_option maxRecDepth 20000 in
theorem dX9_yard_53 : decode cX9_yard 53 = .ok (.invokevirtual 75, 3) := by decide +kernel
set_option maxRecDepth 20000 in
theorem dX9_yard_56 : decode cX9_yard 56 = .ok (.ireturn, 1) := by decide +kernel
set_option maxRecDepth 20000 in
theorem dX9_yard_57 : decode cX9_yard 57 = .ok (.aload_n 0, 1) := by decide +kernel
set_option maxRecDepth 20000 in
theorem dX9_yard_58 : decode cX9_yard 58 = .ok (.getfield 10, 3) := by decide +kernel
set_option maxRecDepth 20000 in
theorem dX9_yard_61 : decode cX9_yard 61 = .ok (.getfield 243, 3) := by decide +kernel
set_option maxRecDepth 20000 in
theorem dX9_yard_64 : decode cX9_yard 64 = .ok (.getfield 247, 3) := by decide +kernel
set_option maxRecDepth 20000 in
theorem dX9_yard_67 : decode cX9_yard 67 = .ok (.iload_n 1, 1) := by decide +kernel
set_option maxRecDepth 20000 in
theorem dX9_yard_68 : decode cX9_yard 68 = .ok (.iaload, 1) := by decide +kernel
set_option maxRecDepth 20000 in
theorem dX9_yard_69 : decode cX9_yard 69 = .ok (.istore 6, 2) := by decide +kernel
set_option maxRecDepth 20000 in
theorem dX9_yard_71 : decode cX9_yard 71 = .ok (.aload_n 0, 1) := by decide +kernel
set_option maxRecDepth 20000 in
theorem dX9_yard_72 : decode cX9_yard 72 = .ok (.getfield 10, 3) := by decide +kernel
set_option maxRecDepth 20000 in
theorem dX9_yard_75 : decode cX9_yard 75 = .ok (.getfield 243, 3) := by decide +kernel
set_option maxRecDepth 20000 in
theorem dX9_yard_78 : decode cX9_yard 78 = .ok (.getfield 247, 3) := by decide +kernel
set_option maxRecDepth 20000 in
theorem dX9_yard_81 : decode cX9_yard 81 = .ok (.iload_n 1, 1) := by decide +kernel
set_option maxRecDepth 20000 in
theorem dX9_yard_82 : decode cX9_yard 82 = .ok (.iload_n 2, 1) := by decide +kernel
set_option maxRecDepth 20000 in
theorem dX9_yard_83 : decode cX9_yard 83 = .ok (.iastore, 1) := by decide +kernel
set_option maxRecDepth 20000 in
theorem dX9_yard_84 : decode cX9_yard 84 = .ok (.aload_n 0, 1) := by decide +kernel
set_option maxRecDepth 20000 in
theorem dX9_yard_85 : decode cX9_yard 85 = .ok (.getfield 10, 3) := by decide +kernel
set_option maxRecDepth 20000 in
theorem dX9_yard_88 : decode cX9_yard 88 = .ok (.getfield 243, 3) := by decide +kernel
set_option maxRecDepth 20000 in
theorem dX9_yard_91 : decode cX9_yard 91 = .ok (.getfield 252, 3) := by decide +kernel
set_option maxRecDepth 20000 in
theorem dX9_yard_94 : decode cX9_yard 94 = .ok (.iload_n 1, 1) := by decide +kernel
set_option maxRecDepth 20000 in
theorem dX9_yard_95 : decode cX9_yard 95 = .ok (.iload_n 3, 1) := by decide +kernel
set_option maxRecDepth 20000 in
theorem dX9_yard_96 : decode cX9_yard 96 = .ok (.iastore, 1) := by decide +kernel
set_option maxRecDepth 20000 in
theorem dX9_yard_97 : decode cX9_yard 97 = .ok (.aload_n 0, 1) := by decide +kernel
set_option maxRecDepth 20000 in
theorem dX9_yard_98 : decode cX9_yard 98 = .ok (.getfield 10, 3) := by decide +kernel
set_option maxRecDepth 20000 in
theorem dX9_yard_101 : decode cX9_yard 101 = .ok (.getfield 243, 3) := by decide +kernel
set_option maxRecDepth 20000 in
theorem dX9_yard_104 : decode cX9_yard 104 = .ok (.getfield 255, 3) := by decide +kernel
set_option maxRecDepth 20000 in
theorem dX9_yard_107 : decode cX9_yard 107 = .ok (.iload_n 1, 1) := by decide +kernel
set_option maxRecDepth 20000 in
theorem dX9_yard_108 : decode cX9_yard 108 = .ok (.iload 4, 2) := by decide +kernel
set_option maxRecDepth 20000 in
theorem dX9_yard_110 : decode cX9_yard 110 = .ok (.iastore, 1) := by decide +kernel
set_option maxRecDepth 20000 in
theorem dX9_yard_111 : decode cX9_yard 111 = .ok (.iload 6, 2) := by decide +kernel
set_option maxRecDepth 20000 in
theorem dX9_yard_113 : decode cX9_yard 113 = .ok (.ireturn, 1) := by decide +kernel
set_option maxRecDepth 20000 in
theorem dX9_village_0 : decode cX9_village 0 = .ok (.iload_n 1, 1) := by decide +kernel
set_option maxRecDepth 20000 in
theorem dX9_village_1 : decode cX9_village 1 = .ok (.iconst 0, 1) := by decide +kernel
set_option maxRecDepth 20000 in
theorem dX9_village_2 : decode cX9_village 2 = .ok (.iconst 1, 1) := by decide +kernel
set_option maxRecDepth 20000 in
theorem dX9_village_3 : decode cX9_village 3 = .ok (.invokestatic 65, 3) := by decide +kernel
set_option maxRecDepth 20000 in
theorem dX9_village_6 : decode cX9_village 6 = .ok (.ifCond .ne 9, 3) := by decide +kernel
set_option maxRecDepth 20000 in
theorem dX9_village_9 : decode cX9_village 9 = .ok (.aload_n 0, 1) := by decide +kernel
set_option maxRecDepth 20000 in
theorem dX9_village_10 : decode cX9_village 10 = .ok (.iconst 1, 1) := by decide +kernel
set_option maxRecDepth 20000 in
theorem dX9_village_11 : decode cX9_village 11 = .ok (.invokevirtual 75, 3) := by decide +kernel
set_option maxRecDepth 20000 in
theorem dX9_village_14 : decode cX9_village 14 = .ok (.ireturn, 1) := by decide +kernel
set_option maxRecDepth 20000 in
theorem dX9_village_15 : decode cX9_village 15 = .ok (.aload_n 0, 1) := by decide +kernel
set_option maxRecDepth 20000 in
theorem dX9_village_16 : decode cX9_village 16 = .ok (.getfield 10, 3) := by decide +kernel
set_option maxRecDepth 20000 in
theorem dX9_village_19 : decode cX9_village 19 = .ok (.getfield 243, 3) := by decide +kernel
set_option maxRecDepth 20000 in
theorem dX9_village_22 : decode cX9_village 22 = .ok (.invokevirtual 258, 3) := by decide +kernel
set_option maxRecDepth 20000 in
theorem dX9_village_25 : decode cX9_village 25 = .ok (.iload_n 1, 1) := by decide +kernel
set_option maxRecDepth 20000 in
theorem dX9_village_26 : decode cX9_village 26 = .ok (.ifCond .ne 16, 3) := by decide +kernel
set_option maxRecDepth 20000 in
theorem dX9_village_29 : decode cX9_village 29 = .ok (.aload_n 0, 1) := by decide +kernel
set_option maxRecDepth 20000 in
theorem dX9_village_30 : decode cX9_village 30 = .ok (.getfield 10, 3) := by decide +kernel
set_option maxRecDepth 20000 in
theorem dX9_village_33 : decode cX9_village 33 = .ok (.getfield 243, 3) := by decide +kernel
set_option maxRecDepth 20000 in
theorem dX9_village_36 : decode cX9_village 36 = .ok (.getfield 261, 3) := by decide +kernel
set_option maxRecDepth 20000 in
theorem dX9_village_39 : decode cX9_village 39 = .ok (.goto 13, 3) := by decide +kernel
set_option maxRecDepth 20000 in
theorem dX9_village_42 : decode cX9_village 42 = .ok (.aload_n 0, 1) := by decide +kernel
set_option maxRecDepth 20000 in
theorem dX9_village_43 : decode cX9_village 43 = .ok (.getfield 10, 3) := by decide +kernel
set_option maxRecDepth 20000 in
theorem dX9_village_46 : decode cX9_village 46 = .ok (.getfield 243, 3) := by decide +kernel
set_option maxRecDepth 20000 in
theorem dX9_village_49 : decode cX9_village 49 = .ok (.invokevirtual 264, 3) := by decide +kernel
set_option maxRecDepth 20000 in
theorem dX9_village_52 : decode cX9_village 52 = .ok (.ireturn, 1) := by decide +kernel
set_option maxRecDepth 20000 in
theorem dX9_off_0 : decode cX9_off 0 = .ok (.aload_n 0, 1) := by decide +kernel
set_option maxRecDepth 20000 in
theorem dX9_off_1 : decode cX9_off 1 = .ok (.iload_n 1, 1) := by decide +kernel
set_option maxRecDepth 20000 in
theorem dX9_off_2 : decode cX9_off 2 = .ok (.invokevirtual 110, 3) := by decide +kernel
set_option maxRecDepth 20000 in
theorem dX9_off_5 : decode cX9_off 5 = .ok (.istore_n 2, 1) := by decide +kernel
set_option maxRecDepth 20000 in
theorem dX9_off_6 : decode cX9_off 6 = .ok (.iload_n 2, 1) := by decide +kernel
set_option maxRecDepth 20000 in
theorem dX9_off_7 : decode cX9_off 7 = .ok (.ifCond .eq 11, 3) := by decide +kernel
set_option maxRecDepth 20000 in
theorem dX9_off_10 : decode cX9_off 10 = .ok (.aload_n 0, 1) := by decide +kernel
set_option maxRecDepth 20000 in
theorem dX9_off_11 : decode cX9_off 11 = .ok (.iload_n 2, 1) := by decide +kernel
set_option maxRecDepth 20000 in
theorem dX9_off_12 : decode cX9_off 12 = .ok (.invokevirtual 75, 3) := by decide +kernel
set_option maxRecDepth 20000 in
theorem dX9_off_15 : decode cX9_off 15 = .ok (.goto 28, 3) := by decide +kernel
set_option maxRecDepth 20000 in
theorem dX9_off_18 : decode cX9_off 18 = .ok (.aload_n 0, 1) := by decide +kernel
set_option maxRecDepth 20000 in
theorem dX9_off_19 : decode cX9_off 19 = .ok (.getfield 36, 3) := by decide +kernel
set_option maxRecDepth 20000 in
theorem dX9_off_22 : decode cX9_off 22 = .ok (.aload_n 0, 1) := by decide +kernel
set_option maxRecDepth 20000 in
theorem dX9_off_23 : decode cX9_off 23 = .ok (.getfield 56, 3) := by decide +kernel
set_option maxRecDepth 20000 in
theorem dX9_off_26 : decode cX9_off 26 = .ok (.iload_n 1, 1) := by decide +kernel
set_option maxRecDepth 20000 in
theorem dX9_off_27 : decode cX9_off 27 = .ok (.aaload, 1) := by decide +kernel
set_option maxRecDepth 20000 in
theorem dX9_off_28 : decode cX9_off 28 = .ok (.aload_n 0, 1) := by decide +kernel
set_option maxRecDepth 20000 in
theorem dX9_off_29 : decode cX9_off 29 = .ok (.getfield 10, 3) := by decide +kernel
set_option maxRecDepth 20000 in
theorem dX9_off_32 : decode cX9_off 32 = .ok (.getfield 25, 3) := by decide +kernel
set_option maxRecDepth 20000 in
theorem dX9_off_35 : decode cX9_off 35 = .ok (.getfield 79, 3) := by decide +kernel
set_option maxRecDepth 20000 in
theorem dX9_off_38 : decode cX9_off 38 = .ok (.iconst 2, 1) := by decide +kernel
set_option maxRecDepth 20000 in
theorem dX9_off_39 : decode cX9_off 39 = .ok (.iaload, 1) := by decide +kernel
set_option maxRecDepth 20000 in
theorem dX9_off_40 : decode cX9_off 40 = .ok (.invokevirtual 267, 3) := by decide +kernel
set_option maxRecDepth 20000 in
theorem dX9_off_43 : decode cX9_off 43 = .ok (.ireturn, 1) := by decide +kernel
set_option maxRecDepth 20000 in
theorem dX9_hungry_0 : decode cX9_hungry 0 = .ok (.aload_n 0, 1) := by decide +kernel
set_option maxRecDepth 20000 in
theorem dX9_hungry_1 : decode cX9_hungry 1 = .ok (.iload_n 1, 1) := by decide +kernel
set_option maxRecDepth 20000 in
theorem dX9_hungry_2 : decode cX9_hungry 2 = .ok (.invokevirtual 110, 3) := by decide +kernel
set_option maxRecDepth 20000 in
theorem dX9_hungry_5 : decode cX9_hungry 5 = .ok (.istore_n 2, 1) := by decide +kernel
set_option maxRecDepth 20000 in
theorem dX9_hungry_6 : decode cX9_hungry 6 = .ok (.iload_n 2, 1) := by decide +kernel
set_option maxRecDepth 20000 in
theorem dX9_hungry_7 : decode cX9_hungry 7 = .ok (.ifCond .eq 11, 3) := by decide +kernel
set_option maxRecDepth 20000 in
theorem dX9_hungry_10 : decode cX9_hungry 10 = .ok (.aload_n 0, 1) := by decide +kernel
set_option maxRecDepth 20000 in
theorem dX9_hungry_11 : decode cX9_hungry 11 = .ok (.iload_n 2, 1) := by decide +kernel
set_option maxRecDepth 20000 in
theorem dX9_hungry_12 : decode cX9_hungry 12 = .ok (.invokevirtual 75, 3) := by decide +kernel
set_option maxRecDepth 20000 in
theorem dX9_hungry_15 : decode cX9_hungry 15 = .ok (.goto 16, 3) := by decide +kernel
set_option maxRecDepth 20000 in
theorem dX9_hungry_18 : decode cX9_hungry 18 = .ok (.aload_n 0, 1) := by decide +kernel
set_option maxRecDepth 20000 in
theorem dX9_hungry_19 : decode cX9_hungry 19 = .ok (.getfield 36, 3) := by decide +kernel
set_option maxRecDepth 20000 in
theorem dX9_hungry_22 : decode cX9_hungry 22 = .ok (.aload_n 0, 1) := by decide +kernel
set_option maxRecDepth 20000 in
theorem dX9_hungry_23 : decode cX9_hungry 23 = .ok (.getfield 56, 3) := by decide +kernel
set_option maxRecDepth 20000 in
theorem dX9_hungry_26 : decode cX9_hungry 26 = .ok (.iload_n 1, 1) := by decide +kernel
set_option maxRecDepth 20000 in
theorem dX9_hungry_27 : decode cX9_hungry 27 = .ok (.aaload, 1) := by decide +kernel
set_option maxRecDepth 20000 in
theorem dX9_hungry_28 : decode cX9_hungry 28 = .ok (.invokevirtual 271, 3) := by decide +kernel
set_option maxRecDepth 20000 in
theorem dX9_hungry_31 : decode cX9_hungry 31 = .ok (.ireturn, 1) := by decide +kernel
set_option maxRecDepth 20000 in
theorem dX9_seed_0 : decode cX9_seed 0 = .ok (.aload_n 0, 1) := by decide +kernel
set_option maxRecDepth 20000 in
theorem dX9_seed_1 : decode cX9_seed 1 = .ok (.getfield 10, 3) := by decide +kernel
set_option maxRecDepth 20000 in
theorem dX9_seed_4 : decode cX9_seed 4 = .ok (.getfield 275, 3) := by decide +kernel
set_option maxRecDepth 20000 in
theorem dX9_seed_7 : decode cX9_seed 7 = .ok (.istore_n 2, 1) := by decide +kernel
set_option maxRecDepth 20000 in
theorem dX9_seed_8 : decode cX9_seed 8 = .ok (.aload_n 0, 1) := by decide +kernel
set_option maxRecDepth 20000 in
theorem dX9_seed_9 : decode cX9_seed 9 = .ok (.getfield 10, 3) := by decide +kernel
set_option maxRecDepth 20000 in
theorem dX9_seed_12 : decode cX9_seed 12 = .ok (.iload_n 1, 1) := by decide +kernel
set_option maxRecDepth 20000 in
theorem dX9_seed_13 : decode cX9_seed 13 = .ok (.putfield 275, 3) := by decide +kernel
set_option maxRecDepth 20000 in
theorem dX9_seed_16 : decode cX9_seed 16 = .ok (.iload_n 2, 1) := by decide +kernel
set_option maxRecDepth 20000 in
theorem dX9_seed_17 : decode cX9_seed 17 = .ok (.ireturn, 1) := by decide +kernel
set_option maxRecDepth 20000 in
theorem dX9_voice_0 : decode cX9_voice 0 = .ok (.aload_n 0, 1) := by decide +kernel
set_option maxRecDepth 20000 in
theorem dX9_voice_1 : decode cX9_voice 1 = .ok (.getfield 10, 3) := by decide +kernel
set_option maxRecDepth 20000 in
theorem dX9_voice_4 : decode cX9_voice 4 = .ok (.getfield 25, 3) := by decide +kernel
set_option maxRecDepth 20000 in
theorem dX9_voice_7 : decode cX9_voice 7 = .ok (.iload_n 1, 1) := by decide +kernel
set_option maxRecDepth 20000 in
theorem dX9_voice_8 : decode cX9_voice 8 = .ok (.invokevirtual 94, 3) := by decide +kernel
set_option maxRecDepth 20000 in
theorem dX9_voice_11 : decode cX9_voice 11 = .ok (.ifCond .eq 12, 3) := by decide +kernel
set_option maxRecDepth 20000 in
theorem dX9_voice_14 : decode cX9_voice 14 = .ok (.iload_n 2, 1) := by decide +kernel
set_option maxRecDepth 20000 in
theorem dX9_voice_15 : decode cX9_voice 15 = .ok (.iconst 0, 1) := by decide +kernel
set_option maxRecDepth 20000 in
theorem dX9_voice_16 : decode cX9_voice 16 = .ok (.iconst 3, 1) := by decide +kernel
set_option maxRecDepth 20000 in
theorem dX9_voice_17 : decode cX9_voice 17 = .ok (.invokestatic 65, 3) := by decide +kernel
set_option maxRecDepth 20000 in
theorem dX9_voice_20 : decode cX9_voice 20 = .ok (.ifCond .ne 9, 3) := by decide +kernel
set_option maxRecDepth 20000 in
theorem dX9_voice_23 : decode cX9_voice 23 = .ok (.aload_n 0, 1) := by decide +kernel
set_option maxRecDepth 20000 in
theorem dX9_voice_24 : decode cX9_voice 24 = .ok (.iconst 1, 1) := by decide +kernel
set_option maxRecDepth 20000 in
theorem dX9_voice_25 : decode cX9_voice 25 = .ok (.invokevirtual 75, 3) := by decide +kernel
set_option maxRecDepth 20000 in
theorem dX9_voice_28 : decode cX9_voice 28 = .ok (.ireturn, 1) := by decide +kernel
set_option maxRecDepth 20000 in
theorem dX9_voice_29 : decode cX9_voice 29 = .ok (.aload_n 0, 1) := by decide +kernel
set_option maxRecDepth 20000 in
theorem dX9_voice_30 : decode cX9_voice 30 = .ok (.getfield 10, 3) := by decide +kernel
set_option maxRecDepth 20000 in
theorem dX9_voice_33 : decode cX9_voice 33 = .ok (.getfield 25, 3) := by decide +kernel
set_option maxRecDepth 20000 in
theorem dX9_voice_36 : decode cX9_voice 36 = .ok (.getfield 102, 3) := by decide +kernel
set_option maxRecDepth 20000 in
theorem dX9_voice_39 : decode cX9_voice 39 = .ok (.iload_n 1, 1) := by decide +kernel
set_option maxRecDepth 20000 in
theorem dX9_voice_40 : decode cX9_voice 40 = .ok (.aaload, 1) := by decide +kernel
set_option maxRecDepth 20000 in
theorem dX9_voice_41 : decode cX9_voice 41 = .ok (.astore 4, 2) := by decide +kernel
set_option maxRecDepth 20000 in
theorem dX9_voice_43 : decode cX9_voice 43 = .ok (.aload_n 0, 1) := by decide +kernel
set_option maxRecDepth 20000 in
theorem dX9_voice_44 : decode cX9_voice 44 = .ok (.getfield 50, 3) := by decide +kernel
set_option maxRecDepth 20000 in
theorem dX9_voice_47 : decode cX9_voice 47 = .ok (.aload 4, 2) := by decide +kernel
set_option maxRecDepth 20000 in
theorem dX9_voice_49 : decode cX9_voice 49 = .ok (.iconst 0, 1) := by decide +kernel
set_option maxRecDepth 20000 in
theorem dX9_voice_50 : decode cX9_voice 50 = .ok (.iaload, 1) := by decide +kernel
set_option maxRecDepth 20000 in
theorem dX9_voice_51 : decode cX9_voice 51 = .ok (.iload_n 1, 1) := by decide +kernel
set_option maxRecDepth 20000 in
theorem dX9_voice_52 : decode cX9_voice 52 = .ok (.aload 4, 2) := by decide +kernel
set_option maxRecDepth 20000 in
theorem dX9_voice_54 : decode cX9_voice 54 = .ok (.iconst 2, 1) := by decide +kernel
set_option maxRecDepth 20000 in
theorem dX9_voice_55 : decode cX9_voice 55 = .ok (.iaload, 1) := by decide +kernel
set_option maxRecDepth 20000 in
theorem dX9_voice_56 : decode cX9_voice 56 = .ok (.iload_n 2, 1) := by decide +kernel
set_option maxRecDepth 20000 in
theorem dX9_voice_57 : decode cX9_voice 57 = .ok (.iload_n 3, 1) := by decide +kernel
set_option maxRecDepth 20000 in
theorem dX9_voice_58 : decode cX9_voice 58 = .ok (.invokevirtual 278, 3) := by decide +kernel
set_option maxRecDepth 20000 in
theorem dX9_voice_61 : decode cX9_voice 61 = .ok (.ireturn, 1) := by decide +kernel
set_option maxRecDepth 20000 in
theorem dX9_trace_0 : decode cX9_trace 0 = .ok (.iload_n 1, 1) := by decide +kernel
set_option maxRecDepth 20000 in
theorem dX9_trace_1 : decode cX9_trace 1 = .ok (.iconst 0, 1) := by decide +kernel
set_option maxRecDepth 20000 in
theorem dX9_trace_2 : decode cX9_trace 2 = .ok (.aload_n 0, 1) := by decide +kernel
set_option maxRecDepth 20000 in
theorem dX9_trace_3 : decode cX9_trace 3 = .ok (.getfield 50, 3) := by decide +kernel
set_option maxRecDepth 20000 in
theorem dX9_trace_6 : decode cX9_trace 6 = .ok (.getfield 281, 3) := by decide +kernel
set_option maxRecDepth 20000 in
theorem dX9_trace_9 : decode cX9_trace 9 = .ok (.iconst 1, 1) := by decide +kernel
set_option maxRecDepth 20000 in
theorem dX9_trace_10 : decode cX9_trace 10 = .ok (.isub, 1) := by decide +kernel
set_option maxRecDepth 20000 in
theorem dX9_trace_11 : decode cX9_trace 11 = .ok (.invokestatic 65, 3) := by decide +kernel
set_option maxRecDepth 20000 in
theorem dX9_trace_14 : decode cX9_trace 14 = .ok (.ifCond .eq 15, 3) := by decide +kernel
set_option maxRecDepth 20000 in
theorem dX9_trace_17 : decode cX9_trace 17 = .ok (.aload_n 0, 1) := by decide +kernel
set_option maxRecDepth 20000 in
theorem dX9_trace_18 : decode cX9_trace 18 = .ok (.getfield 50, 3) := by decide +kernel
set_option maxRecDepth 20000 in
theorem dX9_trace_21 : decode cX9_trace 21 = .ok (.getfield 284, 3) := by decide +kernel
set_option maxRecDepth 20000 in
theorem dX9_trace_24 : decode cX9_trace 24 = .ok (.iload_n 1, 1) := by decide +kernel
set_option maxRecDepth 20000 in
theorem dX9_trace_25 : decode cX9_trace 25 = .ok (.iaload, 1) := by decide +kernel
set_option maxRecDepth 20000 in
theorem dX9_trace_26 : decode cX9_trace 26 = .ok (.goto 8, 3) := by decide +kernel
set_option maxRecDepth 20000 in
theorem dX9_trace_29 : decode cX9_trace 29 = .ok (.aload_n 0, 1) := by decide +kernel
set_option maxRecDepth 20000 in
theorem dX9_trace_30 : decode cX9_trace 30 = .ok (.iconst 2, 1) := by decide +kernel
set_option maxRecDepth 20000 in
theorem dX9_trace_31 : decode cX9_trace 31 = .ok (.invokevirtual 75, 3) := by decide +kernel
set_option maxRecDepth 20000 in
theorem dX9_trace_34 : decode cX9_trace 34 = .ok (.ireturn, 1) := by decide +kernel
set_option maxRecDepth 20000 in
theorem dX9_sheet_0 : decode cX9_sheet 0 = .ok (.iload_n 2, 1) := by decide +kernel
set_option maxRecDepth 20000 in
theorem dX9_sheet_1 : decode cX9_sheet 1 = .ok (.ifCond .eq 21, 3) := by decide +kernel
set_option maxRecDepth 20000 in
theorem dX9_sheet_4 : decode cX9_sheet 4 = .ok (.iload_n 2, 1) := by decide +kernel
set_option maxRecDepth 20000 in
theorem dX9_sheet_5 : decode cX9_sheet 5 = .ok (.bipush 8, 2) := by decide +kernel
set_option maxRecDepth 20000 in
theorem dX9_sheet_7 : decode cX9_sheet 7 = .ok (.if_icmp .eq 15, 3) := by decide +kernel
set_option maxRecDepth 20000 in
theorem dX9_sheet_10 : decode cX9_sheet 10 = .ok (.iload_n 2, 1) := by decide +kernel
set_option maxRecDepth 20000 in
theorem dX9_sheet_11 : decode cX9_sheet 11 = .ok (.bipush 16, 2) := by decide +kernel
set_option maxRecDepth 20000 in
theorem dX9_sheet_13 : decode cX9_sheet 13 = .ok (.if_icmp .eq 9, 3) := by decide +kernel
set_option maxRecDepth 20000 in
theorem dX9_sheet_16 : decode cX9_sheet 16 = .ok (.iload_n 2, 1) := by decide +kernel
set_option maxRecDepth 20000 in
theorem dX9_sheet_17 : decode cX9_sheet 17 = .ok (.bipush 32, 2) := by decide +kernel
set_option maxRecDepth 20000 in
theorem dX9_sheet_19 : decode cX9_sheet 19 = .ok (.if_icmp .ne 7, 3) := by decide +kernel
set_option maxRecDepth 20000 in
theorem dX9_sheet_22 : decode cX9_sheet 22 = .ok (.iconst 1, 1) := by decide +kernel
set_option maxRecDepth 20000 in
theorem dX9_sheet_23 : decode cX9_sheet 23 = .ok (.goto 4, 3) := by decide +kernel
set_option maxRecDepth 20000 in
theorem dX9_sheet_26 : decode cX9_sheet 26 = .ok (.iconst 0, 1) := by decide +kernel
set_option maxRecDepth 20000 in
theorem dX9_sheet_27 : decode cX9_sheet 27 = .ok (.istore 4, 2) := by decide +kernel
set_option maxRecDepth 20000 in
theorem dX9_sheet_29 : decode cX9_sheet 29 = .ok (.iload_n 1, 1) := by decide +kernel
set_option maxRecDepth 20000 in
theorem dX9_sheet_30 : decode cX9_sheet 30 = .ok (.invokestatic 287, 3) := by decide +kernel
set_option maxRecDepth 20000 in
theorem dX9_sheet_33 : decode cX9_sheet 33 = .ok (.ifCond .eq 8, 3) := by decide +kernel
set_option maxRecDepth 20000 in
theorem dX9_sheet_36 : decode cX9_sheet 36 = .ok (.iload 4, 2) := by decide +kernel
set_option maxRecDepth 20000 in
theorem dX9_sheet_38 : decode cX9_sheet 38 = .ok (.ifCond .ne 9, 3) := by decide +kernel
set_option maxRecDepth 20000 in
theorem dX9_sheet_41 : decode cX9_sheet 41 = .ok (.aload_n 0, 1) := by decide +kernel
set_option maxRecDepth 20000 in
theorem dX9_sheet_42 : decode cX9_sheet 42 = .ok (.iconst 1, 1) := by decide +kernel
set_option maxRecDepth 20000 in
theorem dX9_sheet_43 : decode cX9_sheet 43 = .ok (.invokevirtual 75, 3) := by decide +kernel
set_option maxRecDepth 20000 in
theorem dX9_sheet_46 : decode cX9_sheet 46 = .ok (.ireturn, 1) := by decide +kernel
set_option maxRecDepth 20000 in
theorem dX9_sheet_47 : decode cX9_sheet 47 = .ok (.iload_n 2, 1) := by decide +kernel
set_option maxRecDepth 20000 in
theorem dX9_sheet_48 : decode cX9_sheet 48 = .ok (.ifCond .eq 13, 3) := by decide +kernel
set_option maxRecDepth 20000 in
theorem dX9_sheet_51 : decode cX9_sheet 51 = .ok (.iload_n 3, 1) := by decide +kernel
set_option maxRecDepth 20000 in
theorem dX9_sheet_52 : decode cX9_sheet 52 = .ok (.ifCond .ge 9, 3) := by decide +kernel
set_option maxRecDepth 20000 in
theorem dX9_sheet_55 : decode cX9_sheet 55 = .ok (.aload_n 0, 1) := by decide +kernel
set_option maxRecDepth 20000 in
theorem dX9_sheet_56 : decode cX9_sheet 56 = .ok (.iconst 3, 1) := by decide +kernel
set_option maxRecDepth 20000 in
theorem dX9_sheet_57 : decode cX9_sheet 57 = .ok (.invokevirtual 75, 3) := by decide +kernel
set_option maxRecDepth 20000 in
theorem dX9_sheet_60 : decode cX9_sheet 60 = .ok (.ireturn, 1) := by decide +kernel
set_option maxRecDepth 20000 in
theorem dX9_sheet_61 : decode cX9_sheet 61 = .ok (.iload_n 2, 1) := by decide +kernel
set_option maxRecDepth 20000 in
theorem dX9_sheet_62 : decode cX9_sheet 62 = .ok (.ifCond .eq 15, 3) := by decide +kernel
set_option maxRecDepth 20000 in
theorem dX9_sheet_65 : decode cX9_sheet 65 = .ok (.iload_n 3, 1) := by decide +kernel
set_option maxRecDepth 20000 in
theorem dX9_sheet_66 : decode cX9_sheet 66 = .ok (.bipush 40, 2) := by decide +kernel
set_option maxRecDepth 20000 in
theorem dX9_sheet_68 : decode cX9_sheet 68 = .ok (.if_icmp .le 9, 3) := by decide +kernel
set_option maxRecDepth 20000 in
theorem dX9_sheet_71 : decode cX9_sheet 71 = .ok (.aload_n 0, 1) := by decide +kernel
set_option maxRecDepth 20000 in
theorem dX9_sheet_72 : decode cX9_sheet 72 = .ok (.iconst 1, 1) := by decide +kernel
set_option maxRecDepth 20000 in
theorem dX9_sheet_73 : decode cX9_sheet 73 = .ok (.invokevirtual 75, 3) := by decide +kernel
set_option maxRecDepth 20000 in
theorem dX9_sheet_76 : decode cX9_sheet 76 = .ok (.ireturn, 1) := by decide +kernel
set_option maxRecDepth 20000 in
theorem dX9_sheet_77 : decode cX9_sheet 77 = .ok (.aload_n 0, 1) := by decide +kernel
set_option maxRecDepth 20000 in
theorem dX9_sheet_78 : decode cX9_sheet 78 = .ok (.getfield 56, 3) := by decide +kernel
set_option maxRecDepth 20000 in
theorem dX9_sheet_81 : decode cX9_sheet 81 = .ok (.iload_n 1, 1) := by decide +kernel
set_option maxRecDepth 20000 in
theorem dX9_sheet_82 : decode cX9_sheet 82 = .ok (.aaload, 1) := by decide +kernel
set_option maxRecDepth 20000 in
theorem dX9_sheet_83 : decode cX9_sheet 83 = .ok (.iload_n 2, 1) := by decide +kernel
set_option maxRecDepth 20000 in
theorem dX9_sheet_84 : decode cX9_sheet 84 = .ok (.iload_n 2, 1) := by decide +kernel
set_option maxRecDepth 20000 in
theorem dX9_sheet_85 : decode cX9_sheet 85 = .ok (.ifCond .ne 7, 3) := by decide +kernel
set_option maxRecDepth 20000 in
theorem dX9_sheet_88 : decode cX9_sheet 88 = .ok (.iconst 0, 1) := by decide +kernel
set_option maxRecDepth 20000 in
theorem dX9_sheet_89 : decode cX9_sheet 89 = .ok (.goto 4, 3) := by decide +kernel
set_option maxRecDepth 20000 in
theorem dX9_sheet_92 : decode cX9_sheet 92 = .ok (.iload_n 3, 1) := by decide +kernel
set_option maxRecDepth 20000 in
theorem dX9_sheet_93 : decode cX9_sheet 93 = .ok (.invokevirtual 290, 3) := by decide +kernel
set_option maxRecDepth 20000 in
theorem dX9_sheet_96 : decode cX9_sheet 96 = .ok (.iconst 1, 1) := by decide +kernel
set_option maxRecDepth 20000 in
theorem dX9_sheet_97 : decode cX9_sheet 97 = .ok (.ireturn, 1) := by decide +kernel
set_option maxRecDepth 20000 in
theorem dX9_put_0 : decode cX9_put 0 = .ok (.aload_n 0, 1) := by decide +kernel
set_option maxRecDepth 20000 in
theorem dX9_put_1 : decode cX9_put 1 = .ok (.iload_n 1, 1) := by decide +kernel
set_option maxRecDepth 20000 in
theorem dX9_put_2 : decode cX9_put 2 = .ok (.invokevirtual 110, 3) := by decide +kernel
set_option maxRecDepth 20000 in
theorem dX9_put_5 : decode cX9_put 5 = .ok (.istore 4, 2) := by decide +kernel
set_option maxRecDepth 20000 in
theorem dX9_put_7 : decode cX9_put 7 = .ok (.iload 4, 2) := by decide +kernel
set_option maxRecDepth 20000 in
theorem dX9_put_9 : decode cX9_put 9 = .ok (.ifCond .eq 10, 3) := by decide +kernel
set_option maxRecDepth 20000 in
theorem dX9_put_12 : decode cX9_put 12 = .ok (.aload_n 0, 1) := by decide +kernel
set_option maxRecDepth 20000 in
theorem dX9_put_13 : decode cX9_put 13 = .ok (.iload 4, 2) := by decide +kernel
set_option maxRecDepth 20000 in
theorem dX9_put_15 : decode cX9_put 15 = .ok (.invokevirtual 75, 3) := by decide +kernel
set_option maxRecDepth 20000 in
theorem dX9_put_18 : decode cX9_put 18 = .ok (.ireturn, 1) := by decide +kernel
set_option maxRecDepth 20000 in
theorem dX9_put_19 : decode cX9_put 19 = .ok (.iload_n 2, 1) := by decide +kernel
set_option maxRecDepth 20000 in
theorem dX9_put_20 : decode cX9_put 20 = .ok (.iconst 0, 1) := by decide +kernel
set_option maxRecDepth 20000 in
theorem dX9_put_21 : decode cX9_put 21 = .ok (.aload_n 0, 1) := by decide +kernel
set_option maxRecDepth 20000 in
theorem dX9_put_22 : decode cX9_put 22 = .ok (.getfield 56, 3) := by decide +kernel
set_option maxRecDepth 20000 in
theorem dX9_put_25 : decode cX9_put 25 = .ok (.iload_n 1, 1) := by decide +kernel
set_option maxRecDepth 20000 in
theorem dX9_put_26 : decode cX9_put 26 = .ok (.aaload, 1) := by decide +kernel
set_option maxRecDepth 20000 in
theorem dX9_put_27 : decode cX9_put 27 = .ok (.getfield 113, 3) := by decide +kernel
set_option maxRecDepth 20000 in
theorem dX9_put_30 : decode cX9_put 30 = .ok (.iconst 1, 1) := by decide +kernel
set_option maxRecDepth 20000 in
theorem dX9_put_31 : decode cX9_put 31 = .ok (.isub, 1) := by decide +kernel
set_option maxRecDepth 20000 in
theorem dX9_put_32 : decode cX9_put 32 = .ok (.invokestatic 65, 3) := by decide +kernel
set_option maxRecDepth 20000 in
theorem dX9_put_35 : decode cX9_put 35 = .ok (.ifCond .ne 9, 3) := by decide +kernel
set_option maxRecDepth 20000 in
theorem dX9_put_38 : decode cX9_put 38 = .ok (.aload_n 0, 1) := by decide +kernel
set_option maxRecDepth 20000 in
theorem dX9_put_39 : decode cX9_put 39 = .ok (.iconst 1, 1) := by decide +kernel
set_option maxRecDepth 20000 in
theorem dX9_put_40 : decode cX9_put 40 = .ok (.invokevirtual 75, 3) := by decide +kernel
set_option maxRecDepth 20000 in
theorem dX9_put_43 : decode cX9_put 43 = .ok (.ireturn, 1) := by decide +kernel
set_option maxRecDepth 20000 in
theorem dX9_put_44 : decode cX9_put 44 = .ok (.aload_n 0, 1) := by decide +kernel
set_option maxRecDepth 20000 in
theorem dX9_put_45 : decode cX9_put 45 = .ok (.getfield 56, 3) := by decide +kernel
set_option maxRecDepth 20000 in
theorem dX9_put_48 : decode cX9_put 48 = .ok (.iload_n 1, 1) := by decide +kernel
set_option maxRecDepth 20000 in
theorem dX9_put_49 : decode cX9_put 49 = .ok (.aaload, 1) := by decide +kernel
set_option maxRecDepth 20000 in
theorem dX9_put_50 : decode cX9_put 50 = .ok (.iload_n 2, 1) := by decide +kernel
set_option maxRecDepth 20000 in
theorem dX9_put_51 : decode cX9_put 51 = .ok (.iload_n 3, 1) := by decide +kernel
set_option maxRecDepth 20000 in
theorem dX9_put_52 : decode cX9_put 52 = .ok (.invokevirtual 293, 3) := by decide +kernel
set_option maxRecDepth 20000 in
theorem dX9_put_55 : decode cX9_put 55 = .ok (.iconst 1, 1) := by decide +kernel
set_option maxRecDepth 20000 in
theorem dX9_put_56 : decode cX9_put 56 = .ok (.ireturn, 1) := by decide +kernel
set_option maxRecDepth 20000 in
theorem dX9_move_0 : decode cX9_move 0 = .ok (.iload_n 1, 1) := by decide +kernel
set_option maxRecDepth 20000 in
theorem dX9_move_1 : decode cX9_move 1 = .ok (.invokestatic 287, 3) := by decide +kernel
set_option maxRecDepth 20000 in
theorem dX9_move_4 : decode cX9_move 4 = .ok (.ifCond .eq 10, 3) := by decide +kernel
set_option maxRecDepth 20000 in
theorem dX9_move_7 : decode cX9_move 7 = .ok (.iload_n 3, 1) := by decide +kernel
set_option maxRecDepth 20000 in
theorem dX9_move_8 : decode cX9_move 8 = .ok (.invokestatic 287, 3) := by decide +kernel
set_option maxRecDepth 20000 in
theorem dX9_move_11 : decode cX9_move 11 = .ok (.ifCond .ne 9, 3) := by decide +kernel
set_option maxRecDepth 20000 in
theorem dX9_move_14 : decode cX9_move 14 = .ok (.aload_n 0, 1) := by decide +kernel
set_option maxRecDepth 20000 in
theorem dX9_move_15 : decode cX9_move 15 = .ok (.iconst 1, 1) := by decide +kernel
set_option maxRecDepth 20000 in
theorem dX9_move_16 : decode cX9_move 16 = .ok (.invokevirtual 75, 3) := by decide +kernel
set_option maxRecDepth 20000 in
theorem dX9_move_19 : decode cX9_move 19 = .ok (.ireturn, 1) := by decide +kernel
set_option maxRecDepth 20000 in
theorem dX9_move_20 : decode cX9_move 20 = .ok (.aload_n 0, 1) := by decide +kernel
set_option maxRecDepth 20000 in
theorem dX9_move_21 : decode cX9_move 21 = .ok (.getfield 56, 3) := by decide +kernel
set_option maxRecDepth 20000 in
theorem dX9_move_24 : decode cX9_move 24 = .ok (.iload_n 1, 1) := by decide +kernel
set_option maxRecDepth 20000 in
theorem dX9_move_25 : decode cX9_move 25 = .ok (.aaload, 1) := by decide +kernel
set_option maxRecDepth 20000 in
theorem dX9_move_26 : decode cX9_move 26 = .ok (.astore 6, 2) := by decide +kernel
set_option maxRecDepth 20000 in
theorem dX9_move_28 : decode cX9_move 28 = .ok (.aload_n 0, 1) := by decide +kernel
set_option maxRecDepth 20000 in
theorem dX9_move_29 : decode cX9_move 29 = .ok (.getfield 56, 3) := by decide +kernel
set_option maxRecDepth 20000 in
theorem dX9_move_32 : decode cX9_move 32 = .ok (.iload_n 3, 1) := by decide +kernel
set_option maxRecDepth 20000 in
theorem dX9_move_33 : decode cX9_move 33 = .ok (.aaload, 1) := by decide +kernel
set_option maxRecDepth 20000 in
theorem dX9_move_34 : decode cX9_move 34 = .ok (.astore 7, 2) := by decide +kernel
set_option maxRecDepth 20000 in
theorem dX9_move_36 : decode cX9_move 36 = .ok (.aload 6, 2) := by decide +kernel
set_option maxRecDepth 20000 in
theorem dX9_move_38 : decode cX9_move 38 = .ok (.invokevirtual 296, 3) := by decide +kernel
set_option maxRecDepth 20000 in
theorem dX9_move_41 : decode cX9_move 41 = .ok (.ifCond .ne 11, 3) := by decide +kernel
set_option maxRecDepth 20000 in
theorem dX9_move_44 : decode cX9_move 44 = .ok (.aload 7, 2) := by decide +kernel
set_option maxRecDepth 20000 in
theorem dX9_move_46 : decode cX9_move 46 = .ok (.invokevirtual 296, 3) := by decide +kernel
set_option maxRecDepth 20000 in
theorem dX9_move_49 : decode cX9_move 49 = .ok (.ifCond .eq 9, 3) := by decide +kernel
set_option maxRecDepth 20000 in
theorem dX9_move_52 : decode cX9_move 52 = .ok (.aload_n 0, 1) := by decide +kernel
set_option maxRecDepth 20000 in
theorem dX9_move_53 : decode cX9_move 53 = .ok (.iconst 2, 1) := by decide +kernel
set_option maxRecDepth 20000 in
theorem dX9_move_54 : decode cX9_move 54 = .ok (.invokevirtual 75, 3) := by decide +kernel
set_option maxRecDepth 20000 in
theorem dX9_move_57 : decode cX9_move 57 = .ok (.ireturn, 1) := by decide +kernel
set_option maxRecDepth 20000 in
theorem dX9_move_58 : decode cX9_move 58 = .ok (.aload 6, 2) := by decide +kernel
set_option maxRecDepth 20000 in
theorem dX9_move_60 : decode cX9_move 60 = .ok (.getfield 300, 3) := by decide +kernel
set_option maxRecDepth 20000 in
theorem dX9_move_63 : decode cX9_move 63 = .ok (.aload 7, 2) := by decide +kernel
set_option maxRecDepth 20000 in
theorem dX9_move_65 : decode cX9_move 65 = .ok (.getfield 300, 3) := by decide +kernel
set_option maxRecDepth 20000 in
theorem dX9_move_68 : decode cX9_move 68 = .ok (.if_icmp .eq 9, 3) := by decide +kernel
set_option maxRecDepth 20000 in
theorem dX9_move_71 : decode cX9_move 71 = .ok (.aload_n 0, 1) := by decide +kernel
set_option maxRecDepth 20000 in
theorem dX9_move_72 : decode cX9_move 72 = .ok (.iconst 5, 1) := by decide +kernel
set_option maxRecDepth 20000 in
theorem dX9_move_73 : decode cX9_move 73 = .ok (.invokevirtual 75, 3) := by decide +kernel
set_option maxRecDepth 20000 in
theorem dX9_move_76 : decode cX9_move 76 = .ok (.ireturn, 1) := by decide +kernel
set_option maxRecDepth 20000 in
theorem dX9_move_77 : decode cX9_move 77 = .ok (.aload 6, 2) := by decide +kernel
set_option maxRecDepth 20000 in
theorem dX9_move_79 : decode cX9_move 79 = .ok (.iload_n 2, 1) := by decide +kernel
set_option maxRecDepth 20000 in
theorem dX9_move_80 : decode cX9_move 80 = .ok (.iload 5, 2) := by decide +kernel
set_option maxRecDepth 20000 in
theorem dX9_move_82 : decode cX9_move 82 = .ok (.invokevirtual 303, 3) := by decide +kernel
set_option maxRecDepth 20000 in
theorem dX9_move_85 : decode cX9_move 85 = .ok (.ifCond .eq 15, 3) := by decide +kernel
set_option maxRecDepth 20000 in
theorem dX9_move_88 : decode cX9_move 88 = .ok (.aload 7, 2) := by decide +kernel
set_option maxRecDepth 20000 in
theorem dX9_move_90 : decode cX9_move 90 = .ok (.iload 4, 2) := by decide +kernel
set_option maxRecDepth 20000 in
theorem dX9_move_92 : decode cX9_move 92 = .ok (.iload 5, 2) := by decide +kernel
set_option maxRecDepth 20000 in
theorem dX9_move_94 : decode cX9_move 94 = .ok (.invokevirtual 303, 3) := by decide +kernel
set_option maxRecDepth 20000 in
theorem dX9_move_97 : decode cX9_move 97 = .ok (.ifCond .ne 9, 3) := by decide +kernel
set_option maxRecDepth 20000 in
theorem dX9_move_100 : decode cX9_move 100 = .ok (.aload_n 0, 1) := by decide +kernel
set_option maxRecDepth 20000 in
theorem dX9_move_101 : decode cX9_move 101 = .ok (.iconst 1, 1) := by decide +kernel
set_option maxRecDepth 20000 in
theorem dX9_move_102 : decode cX9_move 102 = .ok (.invokevirtual 75, 3) := by decide +kernel
set_option maxRecDepth 20000 in
theorem dX9_move_105 : decode cX9_move 105 = .ok (.ireturn, 1) := by decide +kernel
set_option maxRecDepth 20000 in
theorem dX9_move_106 : decode cX9_move 106 = .ok (.aload 6, 2) := by decide +kernel
set_option maxRecDepth 20000 in
theorem dX9_move_108 : decode cX9_move 108 = .ok (.getfield 116, 3) := by decide +kernel
set_option maxRecDepth 20000 in
theorem dX9_move_111 : decode cX9_move 111 = .ok (.iload_n 2, 1) := by decide +kernel
set_option maxRecDepth 20000 in
theorem dX9_move_112 : decode cX9_move 112 = .ok (.aload 7, 2) := by decide +kernel
set_option maxRecDepth 20000 in
theorem dX9_move_114 : decode cX9_move 114 = .ok (.getfield 116, 3) := by decide +kernel
set_option maxRecDepth 20000 in
theorem dX9_move_117 : decode cX9_move 117 = .ok (.iload 4, 2) := by decide +kernel
set_option maxRecDepth 20000 in
theorem dX9_move_119 : decode cX9_move 119 = .ok (.iload 5, 2) := by decide +kernel
set_option maxRecDepth 20000 in
theorem dX9_move_121 : decode cX9_move 121 = .ok (.invokestatic 306, 3) := by decide +kernel
set_option maxRecDepth 20000 in
theorem dX9_move_124 : decode cX9_move 124 = .ok (.iload 5, 2) := by decide +kernel
set_option maxRecDepth 20000 in
theorem dX9_move_126 : decode cX9_move 126 = .ok (.ireturn, 1) := by decide +kernel
set_option maxRecDepth 20000 in
theorem dX9_image_0 : decode cX9_image 0 = .ok (.aload_n 0, 1) := by decide +kernel
set_option maxRecDepth 20000 in
theorem dX9_image_1 : decode cX9_image 1 = .ok (.getfield 16, 3) := by decide +kernel
set_option maxRecDepth 20000 in
theorem dX9_image_4 : decode cX9_image 4 = .ok (.aload_n 0, 1) := by decide +kernel
set_option maxRecDepth 20000 in
theorem dX9_image_5 : decode cX9_image 5 = .ok (.getfield 10, 3) := by decide +kernel
set_option maxRecDepth 20000 in
theorem dX9_image_8 : decode cX9_image 8 = .ok (.invokevirtual 312, 3) := by decide +kernel
set_option maxRecDepth 20000 in
theorem dX9_image_11 : decode cX9_image 11 = .ok (.aload_n 0, 1) := by decide +kernel
set_option maxRecDepth 20000 in
theorem dX9_image_12 : decode cX9_image 12 = .ok (.dup, 1) := by decide +kernel
set_option maxRecDepth 20000 in
theorem dX9_image_13 : decode cX9_image 13 = .ok (.getfield 19, 3) := by decide +kernel
set_option maxRecDepth 20000 in
theorem dX9_image_16 : decode cX9_image 16 = .ok (.iconst 1, 1) := by decide +kernel
set_option maxRecDepth 20000 in
theorem dX9_image_17 : decode cX9_image 17 = .ok (.iadd, 1) := by decide +kernel
set_option maxRecDepth 20000 in
theorem dX9_image_18 : decode cX9_image 18 = .ok (.putfield 19, 3) := by decide +kernel
set_option maxRecDepth 20000 in
theorem dX9_image_21 : decode cX9_image 21 = .ok (.aload_n 0, 1) := by decide +kernel
set_option maxRecDepth 20000 in
theorem dX9_image_22 : decode cX9_image 22 = .ok (.getfield 19, 3) := by decide +kernel
set_option maxRecDepth 20000 in
theorem dX9_image_25 : decode cX9_image 25 = .ok (.ireturn, 1) := by decide +kernel
set_option maxRecDepth 20000 in
theorem dX9_restore_0 : decode cX9_restore 0 = .ok (.aload_n 0, 1) := by decide +kernel
set_option maxRecDepth 20000 in
theorem dX9_restore_1 : decode cX9_restore 1 = .ok (.getfield 19, 3) := by decide +kernel
set_option maxRecDepth 20000 in
theorem dX9_restore_4 : decode cX9_restore 4 = .ok (.ifCond .ne 9, 3) := by decide +kernel
set_option maxRecDepth 20000 in
theorem dX9_restore_7 : decode cX9_restore 7 = .ok (.aload_n 0, 1) := by decide +kernel
set_option maxRecDepth 20000 in
theorem dX9_restore_8 : decode cX9_restore 8 = .ok (.iconst 2, 1) := by decide +kernel
set_option maxRecDepth 20000 in
theorem dX9_restore_9 : decode cX9_restore 9 = .ok (.invokevirtual 75, 3) := by decide +kernel
set_option maxRecDepth 20000 in
theorem dX9_restore_12 : decode cX9_restore 12 = .ok (.ireturn, 1) := by decide +kernel
set_option maxRecDepth 20000 in
theorem dX9_restore_13 : decode cX9_restore 13 = .ok (.aload_n 0, 1) := by decide +kernel
set_option maxRecDepth 20000 in
theorem dX9_restore_14 : decode cX9_restore 14 = .ok (.getfield 10, 3) := by decide +kernel
set_option maxRecDepth 20000 in
theorem dX9_restore_17 : decode cX9_restore 17 = .ok (.aload_n 0, 1) := by decide +kernel
set_option maxRecDepth 20000 in
theorem dX9_restore_18 : decode cX9_restore 18 = .ok (.getfield 16, 3) := by decide +kernel
set_option maxRecDepth 20000 in
theorem dX9_restore_21 : decode cX9_restore 21 = .ok (.invokevirtual 312, 3) := by decide +kernel
set_option maxRecDepth 20000 in
theorem dX9_restore_24 : decode cX9_restore 24 = .ok (.aload_n 0, 1) := by decide +kernel
set_option maxRecDepth 20000 in
theorem dX9_restore_25 : decode cX9_restore 25 = .ok (.getfield 10, 3) := by decide +kernel
set_option maxRecDepth 20000 in
theorem dX9_restore_28 : decode cX9_restore 28 = .ok (.getfield 25, 3) := by decide +kernel
set_option maxRecDepth 20000 in
theorem dX9_restore_31 : decode cX9_restore 31 = .ok (.getfield 315, 3) := by decide +kernel
set_option maxRecDepth 20000 in
theorem dX9_restore_34 : decode cX9_restore 34 = .ok (.ireturn, 1) := by decide +kernel
set_option maxRecDepth 20000 in
theorem dX9_tell_0 : decode cX9_tell 0 = .ok (.aload_n 0, 1) := by decide +kernel
set_option maxRecDepth 20000 in
theorem dX9_tell_1 : decode cX9_tell 1 = .ok (.getfield 10, 3) := by decide +kernel
set_option maxRecDepth 20000 in
theorem dX9_tell_4 : decode cX9_tell 4 = .ok (.getfield 318, 3) := by decide +kernel
set_option maxRecDepth 20000 in
theorem dX9_tell_7 : decode cX9_tell 7 = .ok (.bipush 20, 2) := by decide +kernel
set_option maxRecDepth 20000 in
theorem dX9_tell_9 : decode cX9_tell 9 = .ok (.if_icmp .lt 9, 3) := by decide +kernel
set_option maxRecDepth 20000 in
theorem dX9_tell_12 : decode cX9_tell 12 = .ok (.aload_n 0, 1) := by decide +kernel
set_option maxRecDepth 20000 in
theorem dX9_tell_13 : decode cX9_tell 13 = .ok (.iconst 4, 1) := by decide +kernel
set_option maxRecDepth 20000 in
theorem dX9_tell_14 : decode cX9_tell 14 = .ok (.invokevirtual 75, 3) := by decide +kernel
set_option maxRecDepth 20000 in
theorem dX9_tell_17 : decode cX9_tell 17 = .ok (.ireturn, 1) := by decide +kernel
set_option maxRecDepth 20000 in
theorem dX9_tell_18 : decode cX9_tell 18 = .ok (.aload_n 0, 1) := by decide +kernel
set_option maxRecDepth 20000 in
theorem dX9_tell_19 : decode cX9_tell 19 = .ok (.getfield 10, 3) := by decide +kernel
set_option maxRecDepth 20000 in
theorem dX9_tell_22 : decode cX9_tell 22 = .ok (.getfield 321, 3) := by decide +kernel
set_option maxRecDepth 20000 in
theorem dX9_tell_25 : decode cX9_tell 25 = .ok (.aload_n 0, 1) := by decide +kernel
set_option maxRecDepth 20000 in
theorem dX9_tell_26 : decode cX9_tell 26 = .ok (.getfield 10, 3) := by decide +kernel
set_option maxRecDepth 20000 in
theorem dX9_tell_29 : decode cX9_tell 29 = .ok (.getfield 318, 3) := by decide +kernel
set_option maxRecDepth 20000 in
theorem dX9_tell_32 : decode cX9_tell 32 = .ok (.iload_n 1, 1) := by decide +kernel
set_option maxRecDepth 20000 in
theorem dX9_tell_33 : decode cX9_tell 33 = .ok (.iastore, 1) := by decide +kernel
set_option maxRecDepth 20000 in
theorem dX9_tell_34 : decode cX9_tell 34 = .ok (.aload_n 0, 1) := by decide +kernel
set_option maxRecDepth 20000 in
theorem dX9_tell_35 : decode cX9_tell 35 = .ok (.getfield 10, 3) := by decide +kernel
set_option maxRecDepth 20000 in
theorem dX9_tell_38 : decode cX9_tell 38 = .ok (.dup, 1) := by decide +kernel
set_option maxRecDepth 20000 in
theorem dX9_tell_39 : decode cX9_tell 39 = .ok (.getfield 318, 3) := by decide +kernel
set_option maxRecDepth 20000 in
theorem dX9_tell_42 : decode cX9_tell 42 = .ok (.iconst 1, 1) := by decide +kernel
set_option maxRecDepth 20000 in
theorem dX9_tell_43 : decode cX9_tell 43 = .ok (.iadd, 1) := by decide +kernel
set_option maxRecDepth 20000 in
theorem dX9_tell_44 : decode cX9_tell 44 = .ok (.putfield 318, 3) := by decide +kernel
set_option maxRecDepth 20000 in
theorem dX9_tell_47 : decode cX9_tell 47 = .ok (.aload_n 0, 1) := by decide +kernel
set_option maxRecDepth 20000 in
theorem dX9_tell_48 : decode cX9_tell 48 = .ok (.getfield 10, 3) := by decide +kernel
set_option maxRecDepth 20000 in
theorem dX9_tell_51 : decode cX9_tell 51 = .ok (.getfield 318, 3) := by decide +kernel
set_option maxRecDepth 20000 in
theorem dX9_tell_54 : decode cX9_tell 54 = .ok (.ireturn, 1) := by decide +kernel
set_option maxRecDepth 20000 in
theorem dX9_check_0 : decode cX9_check 0 = .ok (.aload_n 0, 1) := by decide +kernel
set_option maxRecDepth 20000 in
theorem dX9_check_1 : decode cX9_check 1 = .ok (.getfield 10, 3) := by decide +kernel
set_option maxRecDepth 20000 in
theorem dX9_check_4 : decode cX9_check 4 = .ok (.getfield 318, 3) := by decide +kernel
set_option maxRecDepth 20000 in
theorem dX9_check_7 : decode cX9_check 7 = .ok (.istore_n 1, 1) := by decide +kernel
set_option maxRecDepth 20000 in
theorem dX9_check_8 : decode cX9_check 8 = .ok (.aload_n 0, 1) := by decide +kernel
set_option maxRecDepth 20000 in
theorem dX9_check_9 : decode cX9_check 9 = .ok (.getfield 10, 3) := by decide +kernel
set_option maxRecDepth 20000 in
theorem dX9_check_12 : decode cX9_check 12 = .ok (.iconst 0, 1) := by decide +kernel
set_option maxRecDepth 20000 in
theorem dX9_check_13 : decode cX9_check 13 = .ok (.putfield 318, 3) := by decide +kernel
set_option maxRecDepth 20000 in
theorem dX9_check_16 : decode cX9_check 16 = .ok (.aload_n 0, 1) := by decide +kernel
set_option maxRecDepth 20000 in
theorem dX9_check_17 : decode cX9_check 17 = .ok (.getfield 36, 3) := by decide +kernel
set_option maxRecDepth 20000 in
theorem dX9_check_20 : decode cX9_check 20 = .ok (.aload_n 0, 1) := by decide +kernel
set_option maxRecDepth 20000 in
theorem dX9_check_21 : decode cX9_check 21 = .ok (.getfield 10, 3) := by decide +kernel
set_option maxRecDepth 20000 in
theorem dX9_check_24 : decode cX9_check 24 = .ok (.getfield 321, 3) := by decide +kernel
set_option maxRecDepth 20000 in
theorem dX9_check_27 : decode cX9_check 27 = .ok (.iload_n 1, 1) := by decide +kernel
set_option maxRecDepth 20000 in
theorem dX9_check_28 : decode cX9_check 28 = .ok (.invokevirtual 324, 3) := by decide +kernel
set_option maxRecDepth 20000 in
theorem dX9_check_31 : decode cX9_check 31 = .ok (.ireturn, 1) := by decide +kernel
set_option maxRecDepth 20000 in
theorem dX9_count_0 : decode cX9_count 0 = .ok (.iload_n 1, 1) := by decide +kernel
set_option maxRecDepth 20000 in
theorem dX9_count_1 : decode cX9_count 1 = .ok (.tableswitch 123 0 7 #[47, 58, 69, 80, 91, 99, 107, 115], 47) := by decide +kernel
set_option maxRecDepth 20000 in
theorem dX9_count_48 : decode cX9_count 48 = .ok (.aload_n 0, 1) := by decide +kernel
set_option maxRecDepth 20000 in
theorem dX9_count_49 : decode cX9_count 49 = .ok (.getfield 10, 3) := by decide +kernel
set_option maxRecDepth 20000 in
theorem dX9_count_52 : decode cX9_count 52 = .ok (.getfield 25, 3) := by decide +kernel
set_option maxRecDepth 20000 in
theorem dX9_count_55 : decode cX9_count 55 = .ok (.getfield 315, 3) := by decide +kernel
set_option maxRecDepth 20000 in
theorem dX9_count_58 : decode cX9_count 58 = .ok (.ireturn, 1) := by decide +kernel
set_option maxRecDepth 20000 in
theorem dX9_count_59 : decode cX9_count 59 = .ok (.aload_n 0, 1) := by decide +kernel
set_option maxRecDepth 20000 in
theorem dX9_count_60 : decode cX9_count 60 = .ok (.getfield 10, 3) := by decide +kernel
set_option maxRecDepth 20000 in
theorem dX9_count_63 : decode cX9_count 63 = .ok (.getfield 25, 3) := by decide +kernel
set_option maxRecDepth 20000 in
theorem dX9_count_66 : decode cX9_count 66 = .ok (.getfield 87, 3) := by decide +kernel
set_option maxRecDepth 20000 in
theorem dX9_count_69 : decode cX9_count 69 = .ok (.ireturn, 1) := by decide +kernel
set_option maxRecDepth 20000 in
theorem dX9_count_70 : decode cX9_count 70 = .ok (.aload_n 0, 1) := by decide +kernel
set_option maxRecDepth 20000 in
theorem dX9_count_71 : decode cX9_count 71 = .ok (.getfield 10, 3) := by decide +kernel
set_option maxRecDepth 20000 in
theorem dX9_count_74 : decode cX9_count 74 = .ok (.getfield 25, 3) := by decide +kernel
set_option maxRecDepth 20000 in
theorem dX9_count_77 : decode cX9_count 77 = .ok (.getfield 123, 3) := by decide +kernel
set_option maxRecDepth 20000 in
theorem dX9_count_80 : decode cX9_count 80 = .ok (.ireturn, 1) := by decide +kernel
set_option maxRecDepth 20000 in
theorem dX9_count_81 : decode cX9_count 81 = .ok (.aload_n 0, 1) := by decide +kernel
set_option maxRecDepth 20000 in
theorem dX9_count_82 : decode cX9_count 82 = .ok (.getfield 10, 3) := by decide +kernel
set_option maxRecDepth 20000 in
theorem dX9_count_85 : decode cX9_count 85 = .ok (.getfield 25, 3) := by decide +kernel
set_option maxRecDepth 20000 in
theorem dX9_count_88 : decode cX9_count 88 = .ok (.getfield 194, 3) := by decide +kernel
set_option maxRecDepth 20000 in
theorem dX9_count_91 : decode cX9_count 91 = .ok (.ireturn, 1) := by decide +kernel
set_option maxRecDepth 20000 in
theorem dX9_count_92 : decode cX9_count 92 = .ok (.aload_n 0, 1) := by decide +kernel
set_option maxRecDepth 20000 in
theorem dX9_count_93 : decode cX9_count 93 = .ok (.getfield 10, 3) := by decide +kernel
set_option maxRecDepth 20000 in
theorem dX9_count_96 : decode cX9_count 96 = .ok (.getfield 139, 3) := by decide +kernel
set_option maxRecDepth 20000 in
theorem dX9_count_99 : decode cX9_count 99 = .ok (.ireturn, 1) := by decide +kernel
set_option maxRecDepth 20000 in
theorem dX9_count_100 : decode cX9_count 100 = .ok (.aload_n 0, 1) := by decide +kernel
set_option maxRecDepth 20000 in
theorem dX9_count_101 : decode cX9_count 101 = .ok (.getfield 10, 3) := by decide +kernel
set_option maxRecDepth 20000 in
theorem dX9_count_104 : decode cX9_count 104 = .ok (.getfield 318, 3) := by decide +kernel
set_option maxRecDepth 20000 in
theorem dX9_count_107 : decode cX9_count 107 = .ok (.ireturn, 1) := by decide +kernel
set_option maxRecDepth 20000 in
theorem dX9_count_108 : decode cX9_count 108 = .ok (.aload_n 0, 1) := by decide +kernel
set_option maxRecDepth 20000 in
theorem dX9_count_109 : decode cX9_count 109 = .ok (.getfield 50, 3) := by decide +kernel
set_option maxRecDepth 20000 in
theorem dX9_count_112 : decode cX9_count 112 = .ok (.getfield 281, 3) := by decide +kernel
set_option maxRecDepth 20000 in
theorem dX9_count_115 : decode cX9_count 115 = .ok (.ireturn, 1) := by decide +kernel
set_option maxRecDepth 20000 in
theorem dX9_count_116 : decode cX9_count 116 = .ok (.aload_n 0, 1) := by decide +kernel
set_option maxRecDepth 20000 in
theorem dX9_count_117 : decode cX9_count 117 = .ok (.getfield 10, 3) := by decide +kernel
set_option maxRecDepth 20000 in
theorem dX9_count_120 : decode cX9_count 120 = .ok (.getfield 275, 3) := by decide +kernel
set_option maxRecDepth 20000 in
theorem dX9_count_123 : decode cX9_count 123 = .ok (.ireturn, 1) := by decide +kernel
set_option maxRecDepth 20000 in
theorem dX9_count_124 : decode cX9_count 124 = .ok (.aload_n 0, 1) := by decide +kernel
set_option maxRecDepth 20000 in
theorem dX9_count_125 : decode cX9_count 125 = .ok (.iconst 1, 1) := by decide +kernel
set_option maxRecDepth 20000 in
theorem dX9_count_126 : decode cX9_count 126 = .ok (.invokevirtual 75, 3) := by decide +kernel
set_option maxRecDepth 20000 in
theorem dX9_count_129 : decode cX9_count 129 = .ok (.ireturn, 1) := by decide +kernel
set_option maxRecDepth 20000 in
theorem dX9_told_0 : decode cX9_told 0 = .ok (.iload_n 1, 1) := by decide +kernel
set_option maxRecDepth 20000 in
theorem dX9_told_1 : decode cX9_told 1 = .ok (.iconst 1, 1) := by decide +kernel
set_option maxRecDepth 20000 in
theorem dX9_told_2 : decode cX9_told 2 = .ok (.iconst 5, 1) := by decide +kernel
set_option maxRecDepth 20000 in
theorem dX9_told_3 : decode cX9_told 3 = .ok (.invokestatic 65, 3) := by decide +kernel
set_option maxRecDepth 20000 in
theorem dX9_told_6 : decode cX9_told 6 = .ok (.ifCond .eq 12, 3) := by decide +kernel
set_option maxRecDepth 20000 in
theorem dX9_told_9 : decode cX9_told 9 = .ok (.aload_n 0, 1) := by decide +kernel
set_option maxRecDepth 20000 in
theorem dX9_told_10 : decode cX9_told 10 = .ok (.getfield 60, 3) := by decide +kernel
set_option maxRecDepth 20000 in
theorem dX9_told_13 : decode cX9_told 13 = .ok (.iload_n 1, 1) := by decide +kernel
set_option maxRecDepth 20000 in
theorem dX9_told_14 : decode cX9_told 14 = .ok (.iaload, 1) := by decide +kernel
set_option maxRecDepth 20000 in
theorem dX9_told_15 : decode cX9_told 15 = .ok (.goto 8, 3) := by decide +kernel
set_option maxRecDepth 20000 in
theorem dX9_told_18 : decode cX9_told 18 = .ok (.aload_n 0, 1) := by decide +kernel
set_option maxRecDepth 20000 in
theorem dX9_told_19 : decode cX9_told 19 = .ok (.iconst 1, 1) := by decide +kernel
set_option maxRecDepth 20000 in
theorem dX9_told_20 : decode cX9_told 20 = .ok (.invokevirtual 75, 3) := by decide +kernel
set_option maxRecDepth 20000 in
theorem dX9_told_23 : decode cX9_told 23 = .ok (.ireturn, 1) := by decide +kernel
set_option maxRecDepth 20000 in
theorem dX9_error_0 : decode cX9_error 0 = .ok (.iload_n 1, 1) := by decide +kernel
set_option maxRecDepth 20000 in
theorem dX9_error_1 : decode cX9_error 1 = .ok (.iconst 1, 1) := by decide +kernel
set_option maxRecDepth 20000 in
theorem dX9_error_2 : decode cX9_error 2 = .ok (.iconst 5, 1) := by decide +kernel
set_option maxRecDepth 20000 in
theorem dX9_error_3 : decode cX9_error 3 = .ok (.invokestatic 65, 3) := by decide +kernel
set_option maxRecDepth 20000 in
theorem dX9_error_6 : decode cX9_error 6 = .ok (.ifCond .eq 13, 3) := by decide +kernel
set_option maxRecDepth 20000 in
theorem dX9_error_9 : decode cX9_error 9 = .ok (.aload_n 0, 1) := by decide +kernel
set_option maxRecDepth 20000 in
theorem dX9_error_10 : decode cX9_error 10 = .ok (.getfield 60, 3) := by decide +kernel
set_option maxRecDepth 20000 in
theorem dX9_error_13 : decode cX9_error 13 = .ok (.iload_n 1, 1) := by decide +kernel
set_option maxRecDepth 20000 in
theorem dX9_error_14 : decode cX9_error 14 = .ok (.dup2, 1) := by decide +kernel
set_option maxRecDepth 20000 in
theorem dX9_error_15 : decode cX9_error 15 = .ok (.iaload, 1) := by decide +kernel
set_option maxRecDepth 20000 in
theorem dX9_error_16 : decode cX9_error 16 = .ok (.iconst 1, 1) := by decide +kernel
set_option maxRecDepth 20000 in
theorem dX9_error_17 : decode cX9_error 17 = .ok (.iadd, 1) := by decide +kernel
set_option maxRecDepth 20000 in
theorem dX9_error_18 : decode cX9_error 18 = .ok (.iastore, 1) := by decide +kernel
set_option maxRecDepth 20000 in
theorem dX9_error_19 : decode cX9_error 19 = .ok (.ldc_w 328, 3) := by decide +kernel
set_option maxRecDepth 20000 in
theorem dX9_error_22 : decode cX9_error 22 = .ok (.iload_n 1, 1) := by decide +kernel
set_option maxRecDepth 20000 in
theorem dX9_error_23 : decode cX9_error 23 = .ok (.isub, 1) := by decide +kernel
set_option maxRecDepth 20000 in
theorem dX9_error_24 : decode cX9_error 24 = .ok (.ireturn, 1) := by decide +kernel
set_option maxRecDepth 20000 in
theorem dX9_nightsError_0 : decode cX9_nightsError 0 = .ok (.iload_n 1, 1) := by decide +kernel
set_option maxRecDepth 20000 in
theorem dX9_nightsError_1 : decode cX9_nightsError 1 = .ok (.iconst 1, 1) := by decide +kernel
set_option maxRecDepth 20000 in
theorem dX9_nightsError_2 : decode cX9_nightsError 2 = .ok (.bipush 60, 2) := by decide +kernel
set_option maxRecDepth 20000 in
theorem dX9_nightsError_4 : decode cX9_nightsError 4 = .ok (.invokestatic 65, 3) := by decide +kernel
set_option maxRecDepth 20000 in
theorem dX9_nightsError_7 : decode cX9_nightsError 7 = .ok (.ifCond .ne 5, 3) := by decide +kernel
set_option maxRecDepth 20000 in
theorem dX9_nightsError_10 : decode cX9_nightsError 10 = .ok (.iconst 1, 1) := by decide +kernel
set_option maxRecDepth 20000 in
theorem dX9_nightsError_11 : decode cX9_nightsError 11 = .ok (.ireturn, 1) := by decide +kernel
set_option maxRecDepth 20000 in
theorem dX9_nightsError_12 : decode cX9_nightsError 12 = .ok (.aload_n 0, 1) := by decide +kernel
set_option maxRecDepth 20000 in
theorem dX9_nightsError_13 : decode cX9_nightsError 13 = .ok (.getfield 10, 3) := by decide +kernel
set_option maxRecDepth 20000 in
theorem dX9_nightsError_16 : decode cX9_nightsError 16 = .ok (.getfield 25, 3) := by decide +kernel
set_option maxRecDepth 20000 in
theorem dX9_nightsError_19 : decode cX9_nightsError 19 = .ok (.getfield 315, 3) := by decide +kernel
set_option maxRecDepth 20000 in
theorem dX9_nightsError_22 : decode cX9_nightsError 22 = .ok (.iload_n 1, 1) := by decide +kernel
set_option maxRecDepth 20000 in
theorem dX9_nightsError_23 : decode cX9_nightsError 23 = .ok (.iadd, 1) := by decide +kernel
set_option maxRecDepth 20000 in
theorem dX9_nightsError_24 : decode cX9_nightsError 24 = .ok (.sipush 999, 3) := by decide +kernel
set_option maxRecDepth 20000 in
theorem dX9_nightsError_27 : decode cX9_nightsError 27 = .ok (.if_icmp .le 7, 3) := by decide +kernel
set_option maxRecDepth 20000 in
theorem dX9_nightsError_30 : decode cX9_nightsError 30 = .ok (.iconst 3, 1) := by decide +kernel
set_option maxRecDepth 20000 in
theorem dX9_nightsError_31 : decode cX9_nightsError 31 = .ok (.goto 4, 3) := by decide +kernel
set_option maxRecDepth 20000 in
theorem dX9_nightsError_34 : decode cX9_nightsError 34 = .ok (.iconst 0, 1) := by decide +kernel
set_option maxRecDepth 20000 in
theorem dX9_nightsError_35 : decode cX9_nightsError 35 = .ok (.ireturn, 1) := by decide +kernel
set_option maxRecDepth 20000 in
theorem dX9_sheetError_0 : decode cX9_sheetError 0 = .ok (.iload_n 1, 1) := by decide +kernel
set_option maxRecDepth 20000 in
theorem dX9_sheetError_1 : decode cX9_sheetError 1 = .ok (.invokestatic 287, 3) := by decide +kernel
set_option maxRecDepth 20000 in
theorem dX9_sheetError_4 : decode cX9_sheetError 4 = .ok (.ifCond .ne 5, 3) := by decide +kernel
set_option maxRecDepth 20000 in
theorem dX9_sheetError_7 : decode cX9_sheetError 7 = .ok (.iconst 1, 1) := by decide +kernel
set_option maxRecDepth 20000 in
theorem dX9_sheetError_8 : decode cX9_sheetError 8 = .ok (.ireturn, 1) := by decide +kernel
set_option maxRecDepth 20000 in
theorem dX9_sheetError_9 : decode cX9_sheetError 9 = .ok (.aload_n 0, 1) := by decide +kernel
set_option maxRecDepth 20000 in
theorem dX9_sheetError_10 : decode cX9_sheetError 10 = .ok (.getfield 56, 3) := by decide +kernel
set_option maxRecDepth 20000 in
theorem dX9_sheetError_13 : decode cX9_sheetError 13 = .ok (.iload_n 1, 1) := by decide +kernel
set_option maxRecDepth 20000 in
theorem dX9_sheetError_14 : decode cX9_sheetError 14 = .ok (.aaload, 1) := by decide +kernel
set_option maxRecDepth 20000 in
theorem dX9_sheetError_15 : decode cX9_sheetError 15 = .ok (.invokevirtual 296, 3) := by decide +kernel
set_option maxRecDepth 20000 in
theorem dX9_sheetError_18 : decode cX9_sheetError 18 = .ok (.ifCond .eq 7, 3) := by decide +kernel
set_option maxRecDepth 20000 in
theorem dX9_sheetError_21 : decode cX9_sheetError 21 = .ok (.iconst 2, 1) := by decide +kernel
set_option maxRecDepth 20000 in
theorem dX9_sheetError_22 : decode cX9_sheetError 22 = .ok (.goto 4, 3) := by decide +kernel
set_option maxRecDepth 20000 in
theorem dX9_sheetError_25 : decode cX9_sheetError 25 = .ok (.iconst 0, 1) := by decide +kernel
set_option maxRecDepth 20000 in
theorem dX9_sheetError_26 : decode cX9_sheetError 26 = .ok (.ireturn, 1) := by decide +kernel
set_option maxRecDepth 20000 in
theorem dX9_isSheet_0 : decode cX9_isSheet 0 = .ok (.iload_n 0, 1) := by decide +kernel
set_option maxRecDepth 20000 in
theorem dX9_isSheet_1 : decode cX9_isSheet 1 = .ok (.iconst 0, 1) := by decide +kernel
set_option maxRecDepth 20000 in
theorem dX9_isSheet_2 : decode cX9_isSheet 2 = .ok (.iconst 3, 1) := by decide +kernel
set_option maxRecDepth 20000 in
theorem dX9_isSheet_3 : decode cX9_isSheet 3 = .ok (.invokestatic 65, 3) := by decide +kernel
set_option maxRecDepth 20000 in
theorem dX9_isSheet_6 : decode cX9_isSheet 6 = .ok (.ireturn, 1) := by decide +kernel
set_option maxRecDepth 20000 in
theorem dX9_isWay_0 : decode cX9_isWay 0 = .ok (.iload_n 0, 1) := by decide +kernel
set_option maxRecDepth 20000 in
theorem dX9_isWay_1 : decode cX9_isWay 1 = .ok (.iconst 0, 1) := by decide +kernel
set_option maxRecDepth 20000 in
theorem dX9_isWay_2 : decode cX9_isWay 2 = .ok (.bipush 6, 2) := by decide +kernel
set_option maxRecDepth 20000 in
theorem dX9_isWay_4 : decode cX9_isWay 4 = .ok (.invokestatic 65, 3) := by decide +kernel
set_option maxRecDepth 20000 in
theorem dX9_isWay_7 : decode cX9_isWay 7 = .ok (.ifCond .eq 28, 3) := by decide +kernel
set_option maxRecDepth 20000 in
theorem dX9_isWay_10 : decode cX9_isWay 10 = .ok (.iload_n 1, 1) := by decide +kernel
set_option maxRecDepth 20000 in
theorem dX9_isWay_11 : decode cX9_isWay 11 = .ok (.iconst 0, 1) := by decide +kernel
set_option maxRecDepth 20000 in
theorem dX9_isWay_12 : decode cX9_isWay 12 = .ok (.sipush 9999, 3) := by decide +kernel
set_option maxRecDepth 20000 in
theorem dX9_isWay_15 : decode cX9_isWay 15 = .ok (.invokestatic 65, 3) := by decide +kernel
set_option maxRecDepth 20000 in
theorem dX9_isWay_18 : decode cX9_isWay 18 = .ok (.ifCond .eq 17, 3) := by decide +kernel
set_option maxRecDepth 20000 in
theorem dX9_isWay_21 : decode cX9_isWay 21 = .ok (.iload_n 2, 1) := by decide +kernel
set_option maxRecDepth 20000 in
theorem dX9_isWay_22 : decode cX9_isWay 22 = .ok (.iconst 0, 1) := by decide +kernel
set_option maxRecDepth 20000 in
theorem dX9_isWay_23 : decode cX9_isWay 23 = .ok (.bipush 99, 2) := by decide +kernel
set_option maxRecDepth 20000 in
theorem dX9_isWay_25 : decode cX9_isWay 25 = .ok (.invokestatic 65, 3) := by decide +kernel
set_option maxRecDepth 20000 in
theorem dX9_isWay_28 : decode cX9_isWay 28 = .ok (.ifCond .eq 7, 3) := by decide +kernel
set_option maxRecDepth 20000 in
theorem dX9_isWay_31 : decode cX9_isWay 31 = .ok (.iconst 1, 1) := by decide +kernel
set_option maxRecDepth 20000 in
theorem dX9_isWay_32 : decode cX9_isWay 32 = .ok (.goto 4, 3) := by decide +kernel
set_option maxRecDepth 20000 in
theorem dX9_isWay_35 : decode cX9_isWay 35 = .ok (.iconst 0, 1) := by decide +kernel
set_option maxRecDepth 20000 in
theorem dX9_isWay_36 : decode cX9_isWay 36 = .ok (.ireturn, 1) := by decide +kernel
set_option maxRecDepth 20000 in
theorem dX9_isUnder_0 : decode cX9_isUnder 0 = .ok (.iload_n 0, 1) := by decide +kernel
set_option maxRecDepth 20000 in
theorem dX9_isUnder_1 : decode cX9_isUnder 1 = .ok (.istore_n 2, 1) := by decide +kernel
set_option maxRecDepth 20000 in
theorem dX9_isUnder_2 : decode cX9_isUnder 2 = .ok (.iconst 0, 1) := by decide +kernel
set_option maxRecDepth 20000 in
theorem dX9_isUnder_3 : decode cX9_isUnder 3 = .ok (.istore_n 3, 1) := by decide +kernel
set_option maxRecDepth 20000 in
theorem dX9_isUnder_4 : decode cX9_isUnder 4 = .ok (.iload_n 3, 1) := by decide +kernel
set_option maxRecDepth 20000 in
theorem dX9_isUnder_5 : decode cX9_isUnder 5 = .ok (.getstatic 329, 3) := by decide +kernel
set_option maxRecDepth 20000 in
theorem dX9_isUnder_8 : decode cX9_isUnder 8 = .ok (.arraylength, 1) := by decide +kernel
set_option maxRecDepth 20000 in
theorem dX9_isUnder_9 : decode cX9_isUnder 9 = .ok (.if_icmp .ge 32, 3) := by decide +kernel
set_option maxRecDepth 20000 in
theorem dX9_isUnder_12 : decode cX9_isUnder 12 = .ok (.iload_n 2, 1) := by decide +kernel
set_option maxRecDepth 20000 in
theorem dX9_isUnder_13 : decode cX9_isUnder 13 = .ok (.iconst 0, 1) := by decide +kernel
set_option maxRecDepth 20000 in
theorem dX9_isUnder_14 : decode cX9_isUnder 14 = .ok (.bipush 6, 2) := by decide +kernel
set_option maxRecDepth 20000 in
theorem dX9_isUnder_16 : decode cX9_isUnder 16 = .ok (.invokestatic 65, 3) := by decide +kernel
set_option maxRecDepth 20000 in
theorem dX9_isUnder_19 : decode cX9_isUnder 19 = .ok (.ifCond .eq 22, 3) := by decide +kernel
set_option maxRecDepth 20000 in
theorem dX9_isUnder_22 : decode cX9_isUnder 22 = .ok (.iload_n 2, 1) := by decide +kernel
set_option maxRecDepth 20000 in
theorem dX9_isUnder_23 : decode cX9_isUnder 23 = .ok (.iload_n 1, 1) := by decide +kernel
set_option maxRecDepth 20000 in
theorem dX9_isUnder_24 : decode cX9_isUnder 24 = .ok (.if_icmp .ne 5, 3) := by decide +kernel
set_option maxRecDepth 20000 in
theorem dX9_isUnder_27 : decode cX9_isUnder 27 = .ok (.iconst 1, 1) := by decide +kernel
set_option maxRecDepth 20000 in
theorem dX9_isUnder_28 : decode cX9_isUnder 28 = .ok (.ireturn, 1) := by decide +kernel
set_option maxRecDepth 20000 in
theorem dX9_isUnder_29 : decode cX9_isUnder 29 = .ok (.getstatic 329, 3) := by decide +kernel
set_option maxRecDepth 20000 in
theorem dX9_isUnder_32 : decode cX9_isUnder 32 = .ok (.iload_n 2, 1) := by decide +kernel
set_option maxRecDepth 20000 in
theorem dX9_isUnder_33 : decode cX9_isUnder 33 = .ok (.iaload, 1) := by decide +kernel
set_option maxRecDepth 20000 in
theorem dX9_isUnder_34 : decode cX9_isUnder 34 = .ok (.istore_n 2, 1) := by decide +kernel
set_option maxRecDepth 20000 in
theorem dX9_isUnder_35 : decode cX9_isUnder 35 = .ok (.iinc 3 1, 3) := by decide +kernel
set_option maxRecDepth 20000 in
theorem dX9_isUnder_38 : decode cX9_isUnder 38 = .ok (.goto (-34), 3) := by decide +kernel
set_option maxRecDepth 20000 in
theorem dX9_isUnder_41 : decode cX9_isUnder 41 = .ok (.iconst 0, 1) := by decide +kernel
set_option maxRecDepth 20000 in
theorem dX9_isUnder_42 : decode cX9_isUnder 42 = .ok (.ireturn, 1) := by decide +kernel
set_option maxRecDepth 20000 in
theorem dX9_within_0 : decode cX9_within 0 = .ok (.iload_n 0, 1) := by decide +kernel
set_option maxRecDepth 20000 in
theorem dX9_within_1 : decode cX9_within 1 = .ok (.iload_n 1, 1) := by decide +kernel
set_option maxRecDepth 20000 in
theorem dX9_within_2 : decode cX9_within 2 = .ok (.if_icmp .lt 12, 3) := by decide +kernel
set_option maxRecDepth 20000 in
theorem dX9_within_5 : decode cX9_within 5 = .ok (.iload_n 0, 1) := by decide +kernel
set_option maxRecDepth 20000 in
theorem dX9_within_6 : decode cX9_within 6 = .ok (.iload_n 2, 1) := by decide +kernel
set_option maxRecDepth 20000 in
theorem dX9_within_7 : decode cX9_within 7 = .ok (.if_icmp .gt 7, 3) := by decide +kernel
set_option maxRecDepth 20000 in
theorem dX9_within_10 : decode cX9_within 10 = .ok (.iconst 1, 1) := by decide +kernel
set_option maxRecDepth 20000 in
theorem dX9_within_11 : decode cX9_within 11 = .ok (.goto 4, 3) := by decide +kernel
set_option maxRecDepth 20000 in
theorem dX9_within_14 : decode cX9_within 14 = .ok (.iconst 0, 1) := by decide +kernel
set_option maxRecDepth 20000 in
theorem dX9_within_15 : decode cX9_within 15 = .ok (.ireturn, 1) := by decide +kernel
set_option maxRecDepth 20000 in
theorem dX9_held_0 : decode cX9_held 0 = .ok (.iload_n 1, 1) := by decide +kernel
set_option maxRecDepth 20000 in
theorem dX9_held_1 : decode cX9_held 1 = .ok (.iload_n 0, 1) := by decide +kernel
set_option maxRecDepth 20000 in
theorem dX9_held_2 : decode cX9_held 2 = .ok (.iload_n 2, 1) := by decide +kernel
set_option maxRecDepth 20000 in
theorem dX9_held_3 : decode cX9_held 3 = .ok (.invokestatic 332, 3) := by decide +kernel
set_option maxRecDepth 20000 in
theorem dX9_held_6 : decode cX9_held 6 = .ok (.invokestatic 234, 3) := by decide +kernel
set_option maxRecDepth 20000 in
theorem dX9_held_9 : decode cX9_held 9 = .ok (.ireturn, 1) := by decide +kernel
set_option maxRecDepth 20000 in
theorem dX9_commonDivisor_0 : decode cX9_commonDivisor 0 = .ok (.iload_n 0, 1) := by decide +kernel
set_option maxRecDepth 20000 in
theorem dX9_commonDivisor_1 : decode cX9_commonDivisor 1 = .ok (.istore_n 2, 1) := by decide +kernel
set_option maxRecDepth 20000 in
theorem dX9_commonDivisor_2 : decode cX9_commonDivisor 2 = .ok (.iload_n 1, 1) := by decide +kernel
set_option maxRecDepth 20000 in
theorem dX9_commonDivisor_3 : decode cX9_commonDivisor 3 = .ok (.istore_n 3, 1) := by decide +kernel
set_option maxRecDepth 20000 in
theorem dX9_commonDivisor_4 : decode cX9_commonDivisor 4 = .ok (.iconst 0, 1) := by decide +kernel
set_option maxRecDepth 20000 in
theorem dX9_commonDivisor_5 : decode cX9_commonDivisor 5 = .ok (.istore 4, 2) := by decide +kernel
set_option maxRecDepth 20000 in
theorem dX9_commonDivisor_7 : decode cX9_commonDivisor 7 = .ok (.iload 4, 2) := by decide +kernel
set_option maxRecDepth 20000 in
theorem dX9_commonDivisor_9 : decode cX9_commonDivisor 9 = .ok (.bipush 32, 2) := by decide +kernel
set_option maxRecDepth 20000 in
theorem dX9_commonDivisor_11 : decode cX9_commonDivisor 11 = .ok (.if_icmp .ge 23, 3) := by decide +kernel
set_option maxRecDepth 20000 in
theorem dX9_commonDivisor_14 : decode cX9_commonDivisor 14 = .ok (.iload_n 2, 1) := by decide +kernel
set_option maxRecDepth 20000 in
theorem dX9_commonDivisor_15 : decode cX9_commonDivisor 15 = .ok (.ifCond .eq 19, 3) := by decide +kernel
set_option maxRecDepth 20000 in
theorem dX9_commonDivisor_18 : decode cX9_commonDivisor 18 = .ok (.iload_n 3, 1) := by decide +kernel
set_option maxRecDepth 20000 in
theorem dX9_commonDivisor_19 : decode cX9_commonDivisor 19 = .ok (.iload_n 2, 1) := by decide +kernel
set_option maxRecDepth 20000 in
theorem dX9_commonDivisor_20 : decode cX9_commonDivisor 20 = .ok (.irem, 1) := by decide +kernel
set_option maxRecDepth 20000 in
theorem dX9_commonDivisor_21 : decode cX9_commonDivisor 21 = .ok (.istore 5, 2) := by decide +kernel
set_option maxRecDepth 20000 in
theorem dX9_commonDivisor_23 : decode cX9_commonDivisor 23 = .ok (.iload_n 2, 1) := by decide +kernel
set_option maxRecDepth 20000 in
theorem dX9_commonDivisor_24 : decode cX9_commonDivisor 24 = .ok (.istore_n 3, 1) := by decide +kernel
set_option maxRecDepth 20000 in
theorem dX9_commonDivisor_25 : decode cX9_commonDivisor 25 = .ok (.iload 5, 2) := by decide +kernel
set_option maxRecDepth 20000 in
theorem dX9_commonDivisor_27 : decode cX9_commonDivisor 27 = .ok (.istore_n 2, 1) := by decide +kernel
set_option maxRecDepth 20000 in
theorem dX9_commonDivisor_28 : decode cX9_commonDivisor 28 = .ok (.iinc 4 1, 3) := by decide +kernel
set_option maxRecDepth 20000 in
theorem dX9_commonDivisor_31 : decode cX9_commonDivisor 31 = .ok (.goto (-24), 3) := by decide +kernel
set_option maxRecDepth 20000 in
theorem dX9_commonDivisor_34 : decode cX9_commonDivisor 34 = .ok (.iload_n 3, 1) := by decide +kernel
set_option maxRecDepth 20000 in
theorem dX9_commonDivisor_35 : decode cX9_commonDivisor 35 = .ok (.ireturn, 1) := by decide +kernel
set_option maxRecDepth 20000 in
theorem dX9_power_0 : decode cX9_power 0 = .ok (.lconst 1, 1) := by decide +kernel
set_option maxRecDepth 20000 in
theorem dX9_power_1 : decode cX9_power 1 = .ok (.lstore_n 2, 1) := by decide +kernel
set_option maxRecDepth 20000 in
theorem dX9_power_2 : decode cX9_power 2 = .ok (.iconst 0, 1) := by decide +kernel
set_option maxRecDepth 20000 in
theorem dX9_power_3 : decode cX9_power 3 = .ok (.istore 4, 2) := by decide +kernel
set_option maxRecDepth 20000 in
theorem dX9_power_5 : decode cX9_power 5 = .ok (.iload 4, 2) := by decide +kernel
set_option maxRecDepth 20000 in
theorem dX9_power_7 : decode cX9_power 7 = .ok (.iload_n 1, 1) := by decide +kernel
set_option maxRecDepth 20000 in
theorem dX9_power_8 : decode cX9_power 8 = .ok (.if_icmp .ge 14, 3) := by decide +kernel
set_option maxRecDepth 20000 in
theorem dX9_power_11 : decode cX9_power 11 = .ok (.lload_n 2, 1) := by decide +kernel
set_option maxRecDepth 20000 in
theorem dX9_power_12 : decode cX9_power 12 = .ok (.iload_n 0, 1) := by decide +kernel
set_option maxRecDepth 20000 in
theorem dX9_power_13 : decode cX9_power 13 = .ok (.i2l, 1) := by decide +kernel
set_option maxRecDepth 20000 in
theorem dX9_power_14 : decode cX9_power 14 = .ok (.lmul, 1) := by decide +kernel
set_option maxRecDepth 20000 in
theorem dX9_power_15 : decode cX9_power 15 = .ok (.lstore_n 2, 1) := by decide +kernel
set_option maxRecDepth 20000 in
theorem dX9_power_16 : decode cX9_power 16 = .ok (.iinc 4 1, 3) := by decide +kernel
set_option maxRecDepth 20000 in
theorem dX9_power_19 : decode cX9_power 19 = .ok (.goto (-14), 3) := by decide +kernel
set_option maxRecDepth 20000 in
theorem dX9_power_22 : decode cX9_power 22 = .ok (.lload_n 2, 1) := by decide +kernel
set_option maxRecDepth 20000 in
theorem dX9_power_23 : decode cX9_power 23 = .ok (.lreturn, 1) := by decide +kernel
set_option maxRecDepth 20000 in
theorem dX9_namesOf_0 : decode cX9_namesOf 0 = .ok (.iload_n 0, 1) := by decide +kernel
set_option maxRecDepth 20000 in
theorem dX9_namesOf_1 : decode cX9_namesOf 1 = .ok (.lookupswitch 35 #[(0, 27), (1, 31)], 27) := by decide +kernel
set_option maxRecDepth 20000 in
theorem dX9_namesOf_28 : decode cX9_namesOf 28 = .ok (.ldc_w 335, 3) := by decide +kernel
set_option maxRecDepth 20000 in
theorem dX9_namesOf_31 : decode cX9_namesOf 31 = .ok (.areturn, 1) := by decide +kernel
set_option maxRecDepth 20000 in
theorem dX9_namesOf_32 : decode cX9_namesOf 32 = .ok (.ldc_w 337, 3) := by decide +kernel
set_option maxRecDepth 20000 in
theorem dX9_namesOf_35 : decode cX9_namesOf 35 = .ok (.areturn, 1) := by decide +kernel
set_option maxRecDepth 20000 in
theorem dX9_namesOf_36 : decode cX9_namesOf 36 = .ok (.ldc_w 339, 3) := by decide +kernel
set_option maxRecDepth 20000 in
theorem dX9_namesOf_39 : decode cX9_namesOf 39 = .ok (.areturn, 1) := by decide +kernel
