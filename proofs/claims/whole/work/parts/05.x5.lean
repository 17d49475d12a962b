theorem dX5_init_0 : decode cX5_init 0 = .ok (.aload_n 0, 1) := by decide +kernel
theorem dX5_init_1 : decode cX5_init 1 = .ok (.invokespecial 1, 3) := by decide +kernel
theorem dX5_init_4 : decode cX5_init 4 = .ok (.aload_n 0, 1) := by decide +kernel
theorem dX5_init_5 : decode cX5_init 5 = .ok (.iconst 5, 1) := by decide +kernel
theorem dX5_init_6 : decode cX5_init 6 = .ok (.anewarray 9, 3) := by decide +kernel
theorem dX5_init_9 : decode cX5_init 9 = .ok (.putfield 11, 3) := by decide +kernel
theorem dX5_init_12 : decode cX5_init 12 = .ok (.aload_n 0, 1) := by decide +kernel
theorem dX5_init_13 : decode cX5_init 13 = .ok (.bipush 6, 2) := by decide +kernel
theorem dX5_init_15 : decode cX5_init 15 = .ok (.anewarray 15, 3) := by decide +kernel
theorem dX5_init_18 : decode cX5_init 18 = .ok (.putfield 17, 3) := by decide +kernel
theorem dX5_init_21 : decode cX5_init 21 = .ok (.aload_n 0, 1) := by decide +kernel
theorem dX5_init_22 : decode cX5_init 22 = .ok (.iconst 3, 1) := by decide +kernel
theorem dX5_init_23 : decode cX5_init 23 = .ok (.anewarray 21, 3) := by decide +kernel
theorem dX5_init_26 : decode cX5_init 26 = .ok (.putfield 23, 3) := by decide +kernel
theorem dX5_init_29 : decode cX5_init 29 = .ok (.aload_n 0, 1) := by decide +kernel
theorem dX5_init_30 : decode cX5_init 30 = .ok (.bipush 15, 2) := by decide +kernel
theorem dX5_init_32 : decode cX5_init 32 = .ok (.anewarray 27, 3) := by decide +kernel
theorem dX5_init_35 : decode cX5_init 35 = .ok (.putfield 29, 3) := by decide +kernel
theorem dX5_init_38 : decode cX5_init 38 = .ok (.aload_n 0, 1) := by decide +kernel
theorem dX5_init_39 : decode cX5_init 39 = .ok (.bipush 60, 2) := by decide +kernel
theorem dX5_init_41 : decode cX5_init 41 = .ok (.anewarray 33, 3) := by decide +kernel
theorem dX5_init_44 : decode cX5_init 44 = .ok (.putfield 35, 3) := by decide +kernel
theorem dX5_init_47 : decode cX5_init 47 = .ok (.aload_n 0, 1) := by decide +kernel
theorem dX5_init_48 : decode cX5_init 48 = .ok (.bipush 6, 2) := by decide +kernel
theorem dX5_init_50 : decode cX5_init 50 = .ok (.anewarray 27, 3) := by decide +kernel
theorem dX5_init_53 : decode cX5_init 53 = .ok (.putfield 39, 3) := by decide +kernel
theorem dX5_init_56 : decode cX5_init 56 = .ok (.aload_n 0, 1) := by decide +kernel
theorem dX5_init_57 : decode cX5_init 57 = .ok (.iconst 0, 1) := by decide +kernel
theorem dX5_init_58 : decode cX5_init 58 = .ok (.putfield 42, 3) := by decide +kernel
theorem dX5_init_61 : decode cX5_init 61 = .ok (.aload_n 0, 1) := by decide +kernel
theorem dX5_init_62 : decode cX5_init 62 = .ok (.iconst 0, 1) := by decide +kernel
theorem dX5_init_63 : decode cX5_init 63 = .ok (.putfield 46, 3) := by decide +kernel
theorem dX5_init_66 : decode cX5_init 66 = .ok (.aload_n 0, 1) := by decide +kernel
theorem dX5_init_67 : decode cX5_init 67 = .ok (.iconst 0, 1) := by decide +kernel
theorem dX5_init_68 : decode cX5_init 68 = .ok (.putfield 49, 3) := by decide +kernel
theorem dX5_init_71 : decode cX5_init 71 = .ok (.iconst 0, 1) := by decide +kernel
theorem dX5_init_72 : decode cX5_init 72 = .ok (.istore_n 1, 1) := by decide +kernel
theorem dX5_init_73 : decode cX5_init 73 = .ok (.iload_n 1, 1) := by decide +kernel
theorem dX5_init_74 : decode cX5_init 74 = .ok (.iconst 5, 1) := by decide +kernel
theorem dX5_init_75 : decode cX5_init 75 = .ok (.if_icmp .ge 22, 3) := by decide +kernel
theorem dX5_init_78 : decode cX5_init 78 = .ok (.aload_n 0, 1) := by decide +kernel
theorem dX5_init_79 : decode cX5_init 79 = .ok (.getfield 11, 3) := by decide +kernel
theorem dX5_init_82 : decode cX5_init 82 = .ok (.iload_n 1, 1) := by decide +kernel
theorem dX5_init_83 : decode cX5_init 83 = .ok (.new 9, 3) := by decide +kernel
theorem dX5_init_86 : decode cX5_init 86 = .ok (.dup, 1) := by decide +kernel
theorem dX5_init_87 : decode cX5_init 87 = .ok (.invokespecial 52, 3) := by decide +kernel
theorem dX5_init_90 : decode cX5_init 90 = .ok (.aastore, 1) := by decide +kernel
theorem dX5_init_91 : decode cX5_init 91 = .ok (.iinc 1 1, 3) := by decide +kernel
theorem dX5_init_94 : decode cX5_init 94 = .ok (.goto (-21), 3) := by decide +kernel
theorem dX5_init_97 : decode cX5_init 97 = .ok (.iconst 0, 1) := by decide +kernel
theorem dX5_init_98 : decode cX5_init 98 = .ok (.istore_n 1, 1) := by decide +kernel
theorem dX5_init_99 : decode cX5_init 99 = .ok (.iload_n 1, 1) := by decide +kernel
theorem dX5_init_100 : decode cX5_init 100 = .ok (.bipush 6, 2) := by decide +kernel
theorem dX5_init_102 : decode cX5_init 102 = .ok (.if_icmp .ge 26, 3) := by decide +kernel
theorem dX5_init_105 : decode cX5_init 105 = .ok (.aload_n 0, 1) := by decide +kernel
theorem dX5_init_106 : decode cX5_init 106 = .ok (.getfield 17, 3) := by decide +kernel
theorem dX5_init_109 : decode cX5_init 109 = .ok (.iload_n 1, 1) := by decide +kernel
theorem dX5_init_110 : decode cX5_init 110 = .ok (.new 15, 3) := by decide +kernel
theorem dX5_init_113 : decode cX5_init 113 = .ok (.dup, 1) := by decide +kernel
theorem dX5_init_114 : decode cX5_init 114 = .ok (.iload_n 1, 1) := by decide +kernel
theorem dX5_init_115 : decode cX5_init 115 = .ok (.iload_n 1, 1) := by decide +kernel
theorem dX5_init_116 : decode cX5_init 116 = .ok (.iconst 2, 1) := by decide +kernel
theorem dX5_init_117 : decode cX5_init 117 = .ok (.iadd, 1) := by decide +kernel
theorem dX5_init_118 : decode cX5_init 118 = .ok (.invokespecial 53, 3) := by decide +kernel
theorem dX5_init_121 : decode cX5_init 121 = .ok (.aastore, 1) := by decide +kernel
theorem dX5_init_122 : decode cX5_init 122 = .ok (.iinc 1 1, 3) := by decide +kernel
theorem dX5_init_125 : decode cX5_init 125 = .ok (.goto (-26), 3) := by decide +kernel
theorem dX5_init_128 : decode cX5_init 128 = .ok (.iconst 0, 1) := by decide +kernel
theorem dX5_init_129 : decode cX5_init 129 = .ok (.istore_n 1, 1) := by decide +kernel
theorem dX5_init_130 : decode cX5_init 130 = .ok (.iload_n 1, 1) := by decide +kernel
theorem dX5_init_131 : decode cX5_init 131 = .ok (.iconst 3, 1) := by decide +kernel
theorem dX5_init_132 : decode cX5_init 132 = .ok (.if_icmp .ge 22, 3) := by decide +kernel
theorem dX5_init_135 : decode cX5_init 135 = .ok (.aload_n 0, 1) := by decide +kernel
theorem dX5_init_136 : decode cX5_init 136 = .ok (.getfield 23, 3) := by decide +kernel
theorem dX5_init_139 : decode cX5_init 139 = .ok (.iload_n 1, 1) := by decide +kernel
theorem dX5_init_140 : decode cX5_init 140 = .ok (.new 21, 3) := by decide +kernel
theorem dX5_init_143 : decode cX5_init 143 = .ok (.dup, 1) := by decide +kernel
theorem dX5_init_144 : decode cX5_init 144 = .ok (.invokespecial 56, 3) := by decide +kernel
theorem dX5_init_147 : decode cX5_init 147 = .ok (.aastore, 1) := by decide +kernel
theorem dX5_init_148 : decode cX5_init 148 = .ok (.iinc 1 1, 3) := by decide +kernel
theorem dX5_init_151 : decode cX5_init 151 = .ok (.goto (-21), 3) := by decide +kernel
theorem dX5_init_154 : decode cX5_init 154 = .ok (.return_, 1) := by decide +kernel
set_option maxRecDepth 20000 in
theorem ggX5_setGame_X5_checkNumber : GoodIn wsX5_setGame wsX5_checkNumber := goodIn_ca (goodIn_r _ [8, 9, 10] (by decide +kernel) (by decide +kernel)) (goodIn_sub (fun _ h => List.mem_cons_of_mem _ (List.mem_append_left _ (List.mem_append_right _ h))) (by decide +kernel))
set_option maxRecDepth 20000 in
theorem gX5_setGame_X5_checkNumber : GoodIn wsX5_setGame (va_wsS RX5 57 yX5_checkNumber wsX5_checkNumber) := goodIn_app (goodIn_of _ (by decide +kernel)) ggX5_setGame_X5_checkNumber
set_option maxRecDepth 20000 in
theorem ggX5_setGame_X5_checkRange : GoodIn wsX5_setGame wsX5_checkRange := goodIn_ca (goodIn_r _ [13, 14, 15] (by decide +kernel) (by decide +kernel)) (goodIn_sub (fun _ h => List.mem_cons_of_mem _ (List.mem_append_right _ h)) (by decide +kernel))
set_option maxRecDepth 20000 in
theorem gX5_setGame_X5_checkRange : GoodIn wsX5_setGame (va_wsS RX5 60 yX5_checkRange wsX5_checkRange) := goodIn_app (goodIn_of _ (by decide +kernel)) ggX5_setGame_X5_checkRange
theorem dX5_setGame_0 : decode cX5_setGame 0 = .ok (.iload_n 1, 1) := by decide +kernel
theorem dX5_setGame_1 : decode cX5_setGame 1 = .ok (.iconst 5, 1) := by decide +kernel
theorem dX5_setGame_2 : decode cX5_setGame 2 = .ok (.invokestatic 57, 3) := by decide +kernel
theorem dX5_setGame_5 : decode cX5_setGame 5 = .ok (.iload_n 2, 1) := by decide +kernel
theorem dX5_setGame_6 : decode cX5_setGame 6 = .ok (.iconst 1, 1) := by decide +kernel
theorem dX5_setGame_7 : decode cX5_setGame 7 = .ok (.bipush 8, 2) := by decide +kernel
theorem dX5_setGame_9 : decode cX5_setGame 9 = .ok (.invokestatic 60, 3) := by decide +kernel
theorem dX5_setGame_12 : decode cX5_setGame 12 = .ok (.iload_n 3, 1) := by decide +kernel
theorem dX5_setGame_13 : decode cX5_setGame 13 = .ok (.iload_n 2, 1) := by decide +kernel
theorem dX5_setGame_14 : decode cX5_setGame 14 = .ok (.bipush 8, 2) := by decide +kernel
theorem dX5_setGame_16 : decode cX5_setGame 16 = .ok (.invokestatic 60, 3) := by decide +kernel
theorem dX5_setGame_19 : decode cX5_setGame 19 = .ok (.iload 4, 2) := by decide +kernel
theorem dX5_setGame_21 : decode cX5_setGame 21 = .ok (.iconst 1, 1) := by decide +kernel
theorem dX5_setGame_22 : decode cX5_setGame 22 = .ok (.bipush 60, 2) := by decide +kernel
theorem dX5_setGame_24 : decode cX5_setGame 24 = .ok (.invokestatic 60, 3) := by decide +kernel
theorem dX5_setGame_27 : decode cX5_setGame 27 = .ok (.aload_n 0, 1) := by decide +kernel
theorem dX5_setGame_28 : decode cX5_setGame 28 = .ok (.getfield 11, 3) := by decide +kernel
theorem dX5_setGame_31 : decode cX5_setGame 31 = .ok (.iload_n 1, 1) := by decide +kernel
theorem dX5_setGame_32 : decode cX5_setGame 32 = .ok (.aaload, 1) := by decide +kernel
theorem dX5_setGame_33 : decode cX5_setGame 33 = .ok (.astore 5, 2) := by decide +kernel
theorem dX5_setGame_35 : decode cX5_setGame 35 = .ok (.aload 5, 2) := by decide +kernel
theorem dX5_setGame_37 : decode cX5_setGame 37 = .ok (.iload_n 2, 1) := by decide +kernel
theorem dX5_setGame_38 : decode cX5_setGame 38 = .ok (.putfield 64, 3) := by decide +kernel
theorem dX5_setGame_41 : decode cX5_setGame 41 = .ok (.aload 5, 2) := by decide +kernel
theorem dX5_setGame_43 : decode cX5_setGame 43 = .ok (.iload_n 3, 1) := by decide +kernel
theorem dX5_setGame_44 : decode cX5_setGame 44 = .ok (.putfield 67, 3) := by decide +kernel
theorem dX5_setGame_47 : decode cX5_setGame 47 = .ok (.aload 5, 2) := by decide +kernel
theorem dX5_setGame_49 : decode cX5_setGame 49 = .ok (.iload 4, 2) := by decide +kernel
theorem dX5_setGame_51 : decode cX5_setGame 51 = .ok (.putfield 70, 3) := by decide +kernel
theorem dX5_setGame_54 : decode cX5_setGame 54 = .ok (.return_, 1) := by decide +kernel
set_option maxRecDepth 20000 in
theorem ggX5_setParts_X5_checkNumber : GoodIn wsX5_setParts wsX5_checkNumber := goodIn_ca (goodIn_r _ [7, 8, 9] (by decide +kernel) (by decide +kernel)) (goodIn_sub (fun _ h => List.mem_cons_of_mem _ (List.mem_append_left _ (List.mem_append_right _ h))) (by decide +kernel))
set_option maxRecDepth 20000 in
theorem gX5_setParts_X5_checkNumber : GoodIn wsX5_setParts (va_wsS RX5 57 yX5_checkNumber wsX5_checkNumber) := goodIn_app (goodIn_of _ (by decide +kernel)) ggX5_setParts_X5_checkNumber
set_option maxRecDepth 20000 in
theorem ggX5_setParts_X5_checkRange : GoodIn wsX5_setParts wsX5_checkRange := goodIn_ca (goodIn_r _ [12, 13, 14] (by decide +kernel) (by decide +kernel)) (goodIn_sub (fun _ h => List.mem_cons_of_mem _ (List.mem_append_right _ h)) (by decide +kernel))
set_option maxRecDepth 20000 in
theorem gX5_setParts_X5_checkRange : GoodIn wsX5_setParts (va_wsS RX5 60 yX5_checkRange wsX5_checkRange) := goodIn_app (goodIn_of _ (by decide +kernel)) ggX5_setParts_X5_checkRange
theorem dX5_setParts_0 : decode cX5_setParts 0 = .ok (.iload_n 1, 1) := by decide +kernel
theorem dX5_setParts_1 : decode cX5_setParts 1 = .ok (.iconst 5, 1) := by decide +kernel
theorem dX5_setParts_2 : decode cX5_setParts 2 = .ok (.invokestatic 57, 3) := by decide +kernel
theorem dX5_setParts_5 : decode cX5_setParts 5 = .ok (.iload_n 2, 1) := by decide +kernel
theorem dX5_setParts_6 : decode cX5_setParts 6 = .ok (.iconst 4, 1) := by decide +kernel
theorem dX5_setParts_7 : decode cX5_setParts 7 = .ok (.invokestatic 57, 3) := by decide +kernel
theorem dX5_setParts_10 : decode cX5_setParts 10 = .ok (.iload_n 3, 1) := by decide +kernel
theorem dX5_setParts_11 : decode cX5_setParts 11 = .ok (.iconst 0, 1) := by decide +kernel
theorem dX5_setParts_12 : decode cX5_setParts 12 = .ok (.bipush 20, 2) := by decide +kernel
theorem dX5_setParts_14 : decode cX5_setParts 14 = .ok (.invokestatic 60, 3) := by decide +kernel
theorem dX5_setParts_17 : decode cX5_setParts 17 = .ok (.iload 4, 2) := by decide +kernel
theorem dX5_setParts_19 : decode cX5_setParts 19 = .ok (.iconst 0, 1) := by decide +kernel
theorem dX5_setParts_20 : decode cX5_setParts 20 = .ok (.iload_n 3, 1) := by decide +kernel
theorem dX5_setParts_21 : decode cX5_setParts 21 = .ok (.invokestatic 60, 3) := by decide +kernel
theorem dX5_setParts_24 : decode cX5_setParts 24 = .ok (.aload_n 0, 1) := by decide +kernel
theorem dX5_setParts_25 : decode cX5_setParts 25 = .ok (.getfield 11, 3) := by decide +kernel
theorem dX5_setParts_28 : decode cX5_setParts 28 = .ok (.iload_n 1, 1) := by decide +kernel
theorem dX5_setParts_29 : decode cX5_setParts 29 = .ok (.aaload, 1) := by decide +kernel
theorem dX5_setParts_30 : decode cX5_setParts 30 = .ok (.astore 5, 2) := by decide +kernel
theorem dX5_setParts_32 : decode cX5_setParts 32 = .ok (.aload 5, 2) := by decide +kernel
theorem dX5_setParts_34 : decode cX5_setParts 34 = .ok (.getfield 73, 3) := by decide +kernel
theorem dX5_setParts_37 : decode cX5_setParts 37 = .ok (.iload_n 2, 1) := by decide +kernel
theorem dX5_setParts_38 : decode cX5_setParts 38 = .ok (.iload_n 3, 1) := by decide +kernel
theorem dX5_setParts_39 : decode cX5_setParts 39 = .ok (.iastore, 1) := by decide +kernel
theorem dX5_setParts_40 : decode cX5_setParts 40 = .ok (.aload 5, 2) := by decide +kernel
theorem dX5_setParts_42 : decode cX5_setParts 42 = .ok (.getfield 77, 3) := by decide +kernel
theorem dX5_setParts_45 : decode cX5_setParts 45 = .ok (.iload_n 2, 1) := by decide +kernel
theorem dX5_setParts_46 : decode cX5_setParts 46 = .ok (.iload 4, 2) := by decide +kernel
theorem dX5_setParts_48 : decode cX5_setParts 48 = .ok (.iastore, 1) := by decide +kernel
theorem dX5_setParts_49 : decode cX5_setParts 49 = .ok (.return_, 1) := by decide +kernel
set_option maxRecDepth 20000 in
theorem ggX5_setSeats_X5_checkNumber : GoodIn wsX5_setSeats wsX5_checkNumber := goodIn_ca (goodIn_r _ [9, 10, 11] (by decide +kernel) (by decide +kernel)) (goodIn_sub (fun _ h => List.mem_cons_of_mem _ (List.mem_append_left _ (List.mem_append_right _ h))) (by decide +kernel))
set_option maxRecDepth 20000 in
theorem gX5_setSeats_X5_checkNumber : GoodIn wsX5_setSeats (va_wsS RX5 57 yX5_checkNumber wsX5_checkNumber) := goodIn_app (goodIn_of _ (by decide +kernel)) ggX5_setSeats_X5_checkNumber
set_option maxRecDepth 20000 in
theorem ggX5_setSeats_X5_checkRange : GoodIn wsX5_setSeats wsX5_checkRange := goodIn_ca (goodIn_r _ [14, 15, 16] (by decide +kernel) (by decide +kernel)) (goodIn_sub (fun _ h => List.mem_cons_of_mem _ (List.mem_append_right _ h)) (by decide +kernel))
set_option maxRecDepth 20000 in
theorem gX5_setSeats_X5_checkRange : GoodIn wsX5_setSeats (va_wsS RX5 60 yX5_checkRange wsX5_checkRange) := goodIn_app (goodIn_of _ (by decide +kernel)) ggX5_setSeats_X5_checkRange
theorem dX5_setSeats_0 : decode cX5_setSeats 0 = .ok (.iload_n 1, 1) := by decide +kernel
theorem dX5_setSeats_1 : decode cX5_setSeats 1 = .ok (.bipush 6, 2) := by decide +kernel
theorem dX5_setSeats_3 : decode cX5_setSeats 3 = .ok (.invokestatic 57, 3) := by decide +kernel
theorem dX5_setSeats_6 : decode cX5_setSeats 6 = .ok (.iload_n 2, 1) := by decide +kernel
theorem dX5_setSeats_7 : decode cX5_setSeats 7 = .ok (.iconst 1, 1) := by decide +kernel
theorem dX5_setSeats_8 : decode cX5_setSeats 8 = .ok (.bipush 8, 2) := by decide +kernel
theorem dX5_setSeats_10 : decode cX5_setSeats 10 = .ok (.invokestatic 60, 3) := by decide +kernel
theorem dX5_setSeats_13 : decode cX5_setSeats 13 = .ok (.aload_n 0, 1) := by decide +kernel
theorem dX5_setSeats_14 : decode cX5_setSeats 14 = .ok (.getfield 17, 3) := by decide +kernel
theorem dX5_setSeats_17 : decode cX5_setSeats 17 = .ok (.iload_n 1, 1) := by decide +kernel
theorem dX5_setSeats_18 : decode cX5_setSeats 18 = .ok (.aaload, 1) := by decide +kernel
theorem dX5_setSeats_19 : decode cX5_setSeats 19 = .ok (.astore_n 3, 1) := by decide +kernel
theorem dX5_setSeats_20 : decode cX5_setSeats 20 = .ok (.aload_n 3, 1) := by decide +kernel
theorem dX5_setSeats_21 : decode cX5_setSeats 21 = .ok (.getfield 80, 3) := by decide +kernel
theorem dX5_setSeats_24 : decode cX5_setSeats 24 = .ok (.iconst (-1), 1) := by decide +kernel
theorem dX5_setSeats_25 : decode cX5_setSeats 25 = .ok (.if_icmp .eq 13, 3) := by decide +kernel
theorem dX5_setSeats_28 : decode cX5_setSeats 28 = .ok (.new 83, 3) := by decide +kernel
theorem dX5_setSeats_31 : decode cX5_setSeats 31 = .ok (.dup, 1) := by decide +kernel
theorem dX5_setSeats_32 : decode cX5_setSeats 32 = .ok (.ldc 85, 2) := by decide +kernel
theorem dX5_setSeats_34 : decode cX5_setSeats 34 = .ok (.invokespecial 87, 3) := by decide +kernel
theorem dX5_setSeats_37 : decode cX5_setSeats 37 = .ok (.athrow, 1) := by decide +kernel
theorem dX5_setSeats_38 : decode cX5_setSeats 38 = .ok (.aload_n 3, 1) := by decide +kernel
theorem dX5_setSeats_39 : decode cX5_setSeats 39 = .ok (.getfield 90, 3) := by decide +kernel
theorem dX5_setSeats_42 : decode cX5_setSeats 42 = .ok (.istore 4, 2) := by decide +kernel
theorem dX5_setSeats_44 : decode cX5_setSeats 44 = .ok (.aload_n 3, 1) := by decide +kernel
theorem dX5_setSeats_45 : decode cX5_setSeats 45 = .ok (.iload_n 2, 1) := by decide +kernel
theorem dX5_setSeats_46 : decode cX5_setSeats 46 = .ok (.putfield 90, 3) := by decide +kernel
theorem dX5_setSeats_49 : decode cX5_setSeats 49 = .ok (.iload 4, 2) := by decide +kernel
theorem dX5_setSeats_51 : decode cX5_setSeats 51 = .ok (.ireturn, 1) := by decide +kernel
set_option maxRecDepth 20000 in
theorem ggX5_teach_X5_checkNumber : GoodIn wsX5_teach wsX5_checkNumber := goodIn_ca (goodIn_r _ [6, 7, 8] (by decide +kernel) (by decide +kernel)) (goodIn_sub (fun _ h => List.mem_cons_of_mem _ (List.mem_append_right _ h)) (by decide +kernel))
set_option maxRecDepth 20000 in
theorem gX5_teach_X5_checkNumber : GoodIn wsX5_teach (va_wsS RX5 57 yX5_checkNumber wsX5_checkNumber) := goodIn_app (goodIn_of _ (by decide +kernel)) ggX5_teach_X5_checkNumber
theorem dX5_teach_0 : decode cX5_teach 0 = .ok (.iload_n 1, 1) := by decide +kernel
theorem dX5_teach_1 : decode cX5_teach 1 = .ok (.iconst 3, 1) := by decide +kernel
theorem dX5_teach_2 : decode cX5_teach 2 = .ok (.invokestatic 57, 3) := by decide +kernel
theorem dX5_teach_5 : decode cX5_teach 5 = .ok (.iload_n 2, 1) := by decide +kernel
theorem dX5_teach_6 : decode cX5_teach 6 = .ok (.iconst 5, 1) := by decide +kernel
theorem dX5_teach_7 : decode cX5_teach 7 = .ok (.invokestatic 57, 3) := by decide +kernel
theorem dX5_teach_10 : decode cX5_teach 10 = .ok (.aload_n 0, 1) := by decide +kernel
theorem dX5_teach_11 : decode cX5_teach 11 = .ok (.getfield 23, 3) := by decide +kernel
theorem dX5_teach_14 : decode cX5_teach 14 = .ok (.iload_n 1, 1) := by decide +kernel
theorem dX5_teach_15 : decode cX5_teach 15 = .ok (.aaload, 1) := by decide +kernel
theorem dX5_teach_16 : decode cX5_teach 16 = .ok (.astore 4, 2) := by decide +kernel
theorem dX5_teach_18 : decode cX5_teach 18 = .ok (.aload 4, 2) := by decide +kernel
theorem dX5_teach_20 : decode cX5_teach 20 = .ok (.getfield 93, 3) := by decide +kernel
theorem dX5_teach_23 : decode cX5_teach 23 = .ok (.iload_n 2, 1) := by decide +kernel
theorem dX5_teach_24 : decode cX5_teach 24 = .ok (.baload, 1) := by decide +kernel
theorem dX5_teach_25 : decode cX5_teach 25 = .ok (.istore 5, 2) := by decide +kernel
theorem dX5_teach_27 : decode cX5_teach 27 = .ok (.aload 4, 2) := by decide +kernel
theorem dX5_teach_29 : decode cX5_teach 29 = .ok (.getfield 93, 3) := by decide +kernel
theorem dX5_teach_32 : decode cX5_teach 32 = .ok (.iload_n 2, 1) := by decide +kernel
theorem dX5_teach_33 : decode cX5_teach 33 = .ok (.iload_n 3, 1) := by decide +kernel
theorem dX5_teach_34 : decode cX5_teach 34 = .ok (.bastore, 1) := by decide +kernel
theorem dX5_teach_35 : decode cX5_teach 35 = .ok (.iload 5, 2) := by decide +kernel
theorem dX5_teach_37 : decode cX5_teach 37 = .ok (.ireturn, 1) := by decide +kernel
set_option maxRecDepth 20000 in
theorem ggX5_buy_X5_checkNumber : GoodIn wsX5_buy wsX5_checkNumber := goodIn_ca (goodIn_r _ [12, 13, 14] (by decide +kernel) (by decide +kernel)) (goodIn_sub (fun _ h => List.mem_cons_of_mem _ (List.mem_append_right _ h)) (by decide +kernel))
set_option maxRecDepth 20000 in
theorem gX5_buy_X5_checkNumber : GoodIn wsX5_buy (va_wsS RX5 57 yX5_checkNumber wsX5_checkNumber) := goodIn_app (goodIn_of _ (by decide +kernel)) ggX5_buy_X5_checkNumber
set_option maxRecDepth 20000 in
theorem ggX5_buy_X0_init : GoodIn wsX5_buy wsX0_init := goodIn_r _ [17, 18, 19, 20, 21, 22, 23, 24, 25, 26, 27, 28, 29, 30, 31, 41, 42, 43, 44, 45, 46, 47, 48, 49, 50] (by decide +kernel) (by decide +kernel)
set_option maxRecDepth 20000 in
theorem gX5_buy_X0_init : GoodIn wsX5_buy (wsX0_init) := ggX5_buy_X0_init
theorem dX5_buy_0 : decode cX5_buy 0 = .ok (.iload_n 1, 1) := by decide +kernel
theorem dX5_buy_1 : decode cX5_buy 1 = .ok (.iconst 5, 1) := by decide +kernel
theorem dX5_buy_2 : decode cX5_buy 2 = .ok (.invokestatic 57, 3) := by decide +kernel
theorem dX5_buy_5 : decode cX5_buy 5 = .ok (.aload_n 0, 1) := by decide +kernel
theorem dX5_buy_6 : decode cX5_buy 6 = .ok (.getfield 42, 3) := by decide +kernel
theorem dX5_buy_9 : decode cX5_buy 9 = .ok (.bipush 15, 2) := by decide +kernel
theorem dX5_buy_11 : decode cX5_buy 11 = .ok (.if_icmp .lt 13, 3) := by decide +kernel
theorem dX5_buy_14 : decode cX5_buy 14 = .ok (.new 83, 3) := by decide +kernel
theorem dX5_buy_17 : decode cX5_buy 17 = .ok (.dup, 1) := by decide +kernel
theorem dX5_buy_18 : decode cX5_buy 18 = .ok (.ldc 97, 2) := by decide +kernel
theorem dX5_buy_20 : decode cX5_buy 20 = .ok (.invokespecial 87, 3) := by decide +kernel
theorem dX5_buy_23 : decode cX5_buy 23 = .ok (.athrow, 1) := by decide +kernel
theorem dX5_buy_24 : decode cX5_buy 24 = .ok (.aload_n 0, 1) := by decide +kernel
theorem dX5_buy_25 : decode cX5_buy 25 = .ok (.getfield 42, 3) := by decide +kernel
theorem dX5_buy_28 : decode cX5_buy 28 = .ok (.istore_n 2, 1) := by decide +kernel
theorem dX5_buy_29 : decode cX5_buy 29 = .ok (.aload_n 0, 1) := by decide +kernel
theorem dX5_buy_30 : decode cX5_buy 30 = .ok (.getfield 29, 3) := by decide +kernel
theorem dX5_buy_33 : decode cX5_buy 33 = .ok (.iload_n 2, 1) := by decide +kernel
theorem dX5_buy_34 : decode cX5_buy 34 = .ok (.new 27, 3) := by decide +kernel
theorem dX5_buy_37 : decode cX5_buy 37 = .ok (.dup, 1) := by decide +kernel
theorem dX5_buy_38 : decode cX5_buy 38 = .ok (.iload_n 2, 1) := by decide +kernel
theorem dX5_buy_39 : decode cX5_buy 39 = .ok (.aload_n 0, 1) := by decide +kernel
theorem dX5_buy_40 : decode cX5_buy 40 = .ok (.getfield 11, 3) := by decide +kernel
theorem dX5_buy_43 : decode cX5_buy 43 = .ok (.iload_n 1, 1) := by decide +kernel
theorem dX5_buy_44 : decode cX5_buy 44 = .ok (.aaload, 1) := by decide +kernel
theorem dX5_buy_45 : decode cX5_buy 45 = .ok (.invokespecial 99, 3) := by decide +kernel
theorem dX5_buy_48 : decode cX5_buy 48 = .ok (.aastore, 1) := by decide +kernel
theorem dX5_buy_49 : decode cX5_buy 49 = .ok (.aload_n 0, 1) := by decide +kernel
theorem dX5_buy_50 : decode cX5_buy 50 = .ok (.iload_n 2, 1) := by decide +kernel
theorem dX5_buy_51 : decode cX5_buy 51 = .ok (.iconst 1, 1) := by decide +kernel
theorem dX5_buy_52 : decode cX5_buy 52 = .ok (.iadd, 1) := by decide +kernel
theorem dX5_buy_53 : decode cX5_buy 53 = .ok (.putfield 42, 3) := by decide +kernel
theorem dX5_buy_56 : decode cX5_buy 56 = .ok (.iload_n 2, 1) := by decide +kernel
theorem dX5_buy_57 : decode cX5_buy 57 = .ok (.ireturn, 1) := by decide +kernel
set_option maxRecDepth 20000 in
theorem ggX5_count_X5_copyNumbered : GoodIn wsX5_count wsX5_copyNumbered := goodIn_ca (goodIn_r _ [9, 10, 11, 12, 25, 26, 27, 28, 29, 30, 31, 32, 33] (by decide +kernel) (by decide +kernel)) (goodIn_sub (fun _ h => List.mem_cons_of_mem _ (List.mem_append_left _ (List.mem_append_right _ h))) (by decide +kernel))
set_option maxRecDepth 20000 in
theorem gX5_count_X5_copyNumbered : GoodIn wsX5_count (wsV RX5 102 RX5 yX5_copyNumbered wsX5_copyNumbered) := goodIn_app (goodIn_of _ (by decide +kernel)) ggX5_count_X5_copyNumbered
set_option maxRecDepth 20000 in
theorem ggX5_count_X5_checkNumber : GoodIn wsX5_count wsX5_checkNumber := goodIn_ca (goodIn_r _ [15, 10, 11] (by decide +kernel) (by decide +kernel)) (goodIn_sub (fun _ h => List.mem_cons_of_mem _ (List.mem_append_left _ (List.mem_append_right _ h))) (by decide +kernel))
set_option maxRecDepth 20000 in
theorem gX5_count_X5_checkNumber : GoodIn wsX5_count (va_wsS RX5 57 yX5_checkNumber wsX5_checkNumber) := goodIn_app (goodIn_of _ (by decide +kernel)) ggX5_count_X5_checkNumber
set_option maxRecDepth 20000 in
theorem ggX5_count_X5_checkRange : GoodIn wsX5_count wsX5_checkRange := goodIn_ca (goodIn_r _ [18, 19, 20] (by decide +kernel) (by decide +kernel)) (goodIn_sub (fun _ h => List.mem_cons_of_mem _ (List.mem_append_right _ h)) (by decide +kernel))
set_option maxRecDepth 20000 in
theorem gX5_count_X5_checkRange : GoodIn wsX5_count (va_wsS RX5 60 yX5_checkRange wsX5_checkRange) := goodIn_app (goodIn_of _ (by decide +kernel)) ggX5_count_X5_checkRange
theorem dX5_count_0 : decode cX5_count 0 = .ok (.aload_n 0, 1) := by decide +kernel
theorem dX5_count_1 : decode cX5_count 1 = .ok (.iload_n 1, 1) := by decide +kernel
theorem dX5_count_2 : decode cX5_count 2 = .ok (.invokevirtual 102, 3) := by decide +kernel
theorem dX5_count_5 : decode cX5_count 5 = .ok (.astore 4, 2) := by decide +kernel
theorem dX5_count_7 : decode cX5_count 7 = .ok (.iload_n 2, 1) := by decide +kernel
theorem dX5_count_8 : decode cX5_count 8 = .ok (.iconst 4, 1) := by decide +kernel
theorem dX5_count_9 : decode cX5_count 9 = .ok (.invokestatic 57, 3) := by decide +kernel
theorem dX5_count_12 : decode cX5_count 12 = .ok (.iload_n 3, 1) := by decide +kernel
theorem dX5_count_13 : decode cX5_count 13 = .ok (.bipush (-20), 2) := by decide +kernel
theorem dX5_count_15 : decode cX5_count 15 = .ok (.bipush 20, 2) := by decide +kernel
theorem dX5_count_17 : decode cX5_count 17 = .ok (.invokestatic 60, 3) := by decide +kernel
theorem dX5_count_20 : decode cX5_count 20 = .ok (.aload 4, 2) := by decide +kernel
theorem dX5_count_22 : decode cX5_count 22 = .ok (.getfield 106, 3) := by decide +kernel
theorem dX5_count_25 : decode cX5_count 25 = .ok (.iload_n 2, 1) := by decide +kernel
theorem dX5_count_26 : decode cX5_count 26 = .ok (.iaload, 1) := by decide +kernel
theorem dX5_count_27 : decode cX5_count 27 = .ok (.iload_n 3, 1) := by decide +kernel
theorem dX5_count_28 : decode cX5_count 28 = .ok (.iadd, 1) := by decide +kernel
theorem dX5_count_29 : decode cX5_count 29 = .ok (.istore 5, 2) := by decide +kernel
theorem dX5_count_31 : decode cX5_count 31 = .ok (.aload 4, 2) := by decide +kernel
theorem dX5_count_33 : decode cX5_count 33 = .ok (.getfield 109, 3) := by decide +kernel
theorem dX5_count_36 : decode cX5_count 36 = .ok (.iconst 2, 1) := by decide +kernel
theorem dX5_count_37 : decode cX5_count 37 = .ok (.if_icmp .eq 15, 3) := by decide +kernel
theorem dX5_count_40 : decode cX5_count 40 = .ok (.iload 5, 2) := by decide +kernel
theorem dX5_count_42 : decode cX5_count 42 = .ok (.ifCond .lt 10, 3) := by decide +kernel
theorem dX5_count_45 : decode cX5_count 45 = .ok (.iload 5, 2) := by decide +kernel
theorem dX5_count_47 : decode cX5_count 47 = .ok (.bipush 40, 2) := by decide +kernel
theorem dX5_count_49 : decode cX5_count 49 = .ok (.if_icmp .le 13, 3) := by decide +kernel
theorem dX5_count_52 : decode cX5_count 52 = .ok (.new 83, 3) := by decide +kernel
theorem dX5_count_55 : decode cX5_count 55 = .ok (.dup, 1) := by decide +kernel
theorem dX5_count_56 : decode cX5_count 56 = .ok (.ldc 112, 2) := by decide +kernel
theorem dX5_count_58 : decode cX5_count 58 = .ok (.invokespecial 87, 3) := by decide +kernel
theorem dX5_count_61 : decode cX5_count 61 = .ok (.athrow, 1) := by decide +kernel
theorem dX5_count_62 : decode cX5_count 62 = .ok (.aload 4, 2) := by decide +kernel
theorem dX5_count_64 : decode cX5_count 64 = .ok (.getfield 106, 3) := by decide +kernel
theorem dX5_count_67 : decode cX5_count 67 = .ok (.iload_n 2, 1) := by decide +kernel
theorem dX5_count_68 : decode cX5_count 68 = .ok (.iload 5, 2) := by decide +kernel
theorem dX5_count_70 : decode cX5_count 70 = .ok (.iastore, 1) := by decide +kernel
theorem dX5_count_71 : decode cX5_count 71 = .ok (.iload 5, 2) := by decide +kernel
theorem dX5_count_73 : decode cX5_count 73 = .ok (.ireturn, 1) := by decide +kernel
set_option maxRecDepth 20000 in
theorem ggX5_fill_X5_copyNumbered : GoodIn wsX5_fill wsX5_copyNumbered := goodIn_ca (goodIn_r _ [11, 12, 13, 14, 34, 35, 36, 37, 38, 39, 40, 41, 42] (by decide +kernel) (by decide +kernel)) (goodIn_sub (fun _ h => List.mem_cons_of_mem _ (List.mem_append_right _ h)) (by decide +kernel))
set_option maxRecDepth 20000 in
theorem gX5_fill_X5_copyNumbered : GoodIn wsX5_fill (wsV RX5 102 RX5 yX5_copyNumbered wsX5_copyNumbered) := goodIn_app (goodIn_of _ (by decide +kernel)) ggX5_fill_X5_copyNumbered
set_option maxRecDepth 20000 in
theorem ggX5_fill_X0_fillFrom : GoodIn wsX5_fill wsX0_fillFrom := goodIn_r _ [19, 20, 21, 22, 23, 24, 25, 26, 27, 28, 29, 30, 31, 32, 33, 43, 44, 45, 46, 47, 48] (by decide +kernel) (by decide +kernel)
set_option maxRecDepth 20000 in
theorem gX5_fill_X0_fillFrom : GoodIn wsX5_fill (wsV RX5 125 RX0 yX0_fillFrom wsX0_fillFrom) := goodIn_app (goodIn_of _ (by decide +kernel)) ggX5_fill_X0_fillFrom
theorem dX5_fill_0 : decode cX5_fill 0 = .ok (.aload_n 0, 1) := by decide +kernel
theorem dX5_fill_1 : decode cX5_fill 1 = .ok (.iload_n 1, 1) := by decide +kernel
theorem dX5_fill_2 : decode cX5_fill 2 = .ok (.invokevirtual 102, 3) := by decide +kernel
theorem dX5_fill_5 : decode cX5_fill 5 = .ok (.astore_n 3, 1) := by decide +kernel
theorem dX5_fill_6 : decode cX5_fill 6 = .ok (.aload_n 0, 1) := by decide +kernel
theorem dX5_fill_7 : decode cX5_fill 7 = .ok (.iload_n 2, 1) := by decide +kernel
theorem dX5_fill_8 : decode cX5_fill 8 = .ok (.invokevirtual 102, 3) := by decide +kernel
theorem dX5_fill_11 : decode cX5_fill 11 = .ok (.astore 4, 2) := by decide +kernel
theorem dX5_fill_13 : decode cX5_fill 13 = .ok (.iload_n 1, 1) := by decide +kernel
theorem dX5_fill_14 : decode cX5_fill 14 = .ok (.iload_n 2, 1) := by decide +kernel
theorem dX5_fill_15 : decode cX5_fill 15 = .ok (.if_icmp .eq 15, 3) := by decide +kernel
theorem dX5_fill_18 : decode cX5_fill 18 = .ok (.aload_n 3, 1) := by decide +kernel
theorem dX5_fill_19 : decode cX5_fill 19 = .ok (.getfield 114, 3) := by decide +kernel
theorem dX5_fill_22 : decode cX5_fill 22 = .ok (.aload 4, 2) := by decide +kernel
theorem dX5_fill_24 : decode cX5_fill 24 = .ok (.getfield 114, 3) := by decide +kernel
theorem dX5_fill_27 : decode cX5_fill 27 = .ok (.if_acmp .eq 13, 3) := by decide +kernel
theorem dX5_fill_30 : decode cX5_fill 30 = .ok (.new 118, 3) := by decide +kernel
theorem dX5_fill_33 : decode cX5_fill 33 = .ok (.dup, 1) := by decide +kernel
theorem dX5_fill_34 : decode cX5_fill 34 = .ok (.ldc 120, 2) := by decide +kernel
theorem dX5_fill_36 : decode cX5_fill 36 = .ok (.invokespecial 122, 3) := by decide +kernel
theorem dX5_fill_39 : decode cX5_fill 39 = .ok (.athrow, 1) := by decide +kernel
theorem dX5_fill_40 : decode cX5_fill 40 = .ok (.aload_n 3, 1) := by decide +kernel
theorem dX5_fill_41 : decode cX5_fill 41 = .ok (.getfield 109, 3) := by decide +kernel
theorem dX5_fill_44 : decode cX5_fill 44 = .ok (.ifCond .ne 11, 3) := by decide +kernel
theorem dX5_fill_47 : decode cX5_fill 47 = .ok (.aload 4, 2) := by decide +kernel
theorem dX5_fill_49 : decode cX5_fill 49 = .ok (.getfield 109, 3) := by decide +kernel
theorem dX5_fill_52 : decode cX5_fill 52 = .ok (.ifCond .eq 13, 3) := by decide +kernel
theorem dX5_fill_55 : decode cX5_fill 55 = .ok (.new 83, 3) := by decide +kernel
theorem dX5_fill_58 : decode cX5_fill 58 = .ok (.dup, 1) := by decide +kernel
theorem dX5_fill_59 : decode cX5_fill 59 = .ok (.ldc 123, 2) := by decide +kernel
theorem dX5_fill_61 : decode cX5_fill 61 = .ok (.invokespecial 87, 3) := by decide +kernel
theorem dX5_fill_64 : decode cX5_fill 64 = .ok (.athrow, 1) := by decide +kernel
theorem dX5_fill_65 : decode cX5_fill 65 = .ok (.aload_n 3, 1) := by decide +kernel
theorem dX5_fill_66 : decode cX5_fill 66 = .ok (.aload 4, 2) := by decide +kernel
theorem dX5_fill_68 : decode cX5_fill 68 = .ok (.invokevirtual 125, 3) := by decide +kernel
theorem dX5_fill_71 : decode cX5_fill 71 = .ok (.ireturn, 1) := by decide +kernel
set_option maxRecDepth 20000 in
theorem ggX5_seat_X5_checkNumber : GoodIn wsX5_seat wsX5_checkNumber := goodIn_ca (goodIn_r _ [19, 20, 21] (by decide +kernel) (by decide +kernel)) (goodIn_sub (fun _ h => List.mem_cons_of_mem _ (List.mem_append_right _ h)) (by decide +kernel))
set_option maxRecDepth 20000 in
theorem gX5_seat_X5_checkNumber : GoodIn wsX5_seat (va_wsS RX5 57 yX5_checkNumber wsX5_checkNumber) := goodIn_app (goodIn_of _ (by decide +kernel)) ggX5_seat_X5_checkNumber
set_option maxRecDepth 20000 in
theorem ggX5_seat_X5_checkRange : GoodIn wsX5_seat wsX5_checkRange := goodIn_ca (goodIn_r _ [24, 1, 2] (by decide +kernel) (by decide +kernel)) (goodIn_sub (fun _ h => List.mem_cons_of_mem _ (List.mem_append_left _ (List.mem_append_left _ (List.mem_append_right _ h)))) (by decide +kernel))
set_option maxRecDepth 20000 in
theorem gX5_seat_X5_checkRange : GoodIn wsX5_seat (va_wsS RX5 60 yX5_checkRange wsX5_checkRange) := goodIn_app (goodIn_of _ (by decide +kernel)) ggX5_seat_X5_checkRange
set_option maxRecDepth 20000 in
theorem ggX5_seat_X1_isFor : GoodIn wsX5_seat wsX1_isFor := goodIn_r _ [29, 30, 31, 77, 78, 79, 80, 81, 82] (by decide +kernel) (by decide +kernel)
set_option maxRecDepth 20000 in
theorem gX5_seat_X1_isFor : GoodIn wsX5_seat (wsV RX5 129 RX1 yX1_isFor wsX1_isFor) := goodIn_app (goodIn_of _ (by decide +kernel)) ggX5_seat_X1_isFor
set_option maxRecDepth 20000 in
theorem ggX5_seat_X5_freeTableFor : GoodIn wsX5_seat wsX5_freeTableFor := goodIn_r _ [35, 36, 14, 37, 68, 69, 70, 71, 72, 73, 74, 75, 76, 89, 90, 91] (by decide +kernel) (by decide +kernel)
set_option maxRecDepth 20000 in
theorem gX5_seat_X5_freeTableFor : GoodIn wsX5_seat (wsV RX5 135 RX5 yX5_freeTableFor wsX5_freeTableFor) := goodIn_app (goodIn_of _ (by decide +kernel)) ggX5_seat_X5_freeTableFor
set_option maxRecDepth 20000 in
theorem ggX5_seat_X5_playableCopyOf : GoodIn wsX5_seat wsX5_playableCopyOf := goodIn_r _ [41, 42, 43, 15, 44, 45, 46, 47, 48, 49, 50, 51, 68, 69, 70, 71, 72, 73, 74, 75, 76, 92, 93, 94, 95, 77, 78, 79, 80, 81, 82] (by decide +kernel) (by decide +kernel)
set_option maxRecDepth 20000 in
theorem gX5_seat_X5_playableCopyOf : GoodIn wsX5_seat (wsV RX5 139 RX5 yX5_playableCopyOf wsX5_playableCopyOf) := goodIn_app (goodIn_of _ (by decide +kernel)) ggX5_seat_X5_playableCopyOf
set_option maxRecDepth 20000 in
theorem ggX5_seat_X5_freeTeacherOf : GoodIn wsX5_seat wsX5_freeTeacherOf := goodIn_r _ [55, 56, 57, 9, 7, 68, 69, 70, 71, 72, 73, 74, 75, 76, 83, 84] (by decide +kernel) (by decide +kernel)
set_option maxRecDepth 20000 in
theorem gX5_seat_X5_freeTeacherOf : GoodIn wsX5_seat (wsV RX5 143 RX5 yX5_freeTeacherOf wsX5_freeTeacherOf) := goodIn_app (goodIn_of _ (by decide +kernel)) ggX5_seat_X5_freeTeacherOf
set_option maxRecDepth 20000 in
theorem ggX5_seat_X2_init : GoodIn wsX5_seat wsX2_init := goodIn_r _ [60, 61, 62, 63, 64, 65, 66, 67, 85, 86, 87, 88] (by decide +kernel) (by decide +kernel)
set_option maxRecDepth 20000 in
theorem gX5_seat_X2_init : GoodIn wsX5_seat (wsX2_init) := ggX5_seat_X2_init
theorem dX5_seat_0 : decode cX5_seat 0 = .ok (.iload_n 2, 1) := by decide +kernel
theorem dX5_seat_1 : decode cX5_seat 1 = .ok (.iconst 5, 1) := by decide +kernel
theorem dX5_seat_2 : decode cX5_seat 2 = .ok (.invokestatic 57, 3) := by decide +kernel
theorem dX5_seat_5 : decode cX5_seat 5 = .ok (.iload_n 1, 1) := by decide +kernel
theorem dX5_seat_6 : decode cX5_seat 6 = .ok (.iconst 1, 1) := by decide +kernel
theorem dX5_seat_7 : decode cX5_seat 7 = .ok (.bipush 8, 2) := by decide +kernel
theorem dX5_seat_9 : decode cX5_seat 9 = .ok (.invokestatic 60, 3) := by decide +kernel
theorem dX5_seat_12 : decode cX5_seat 12 = .ok (.aload_n 0, 1) := by decide +kernel
theorem dX5_seat_13 : decode cX5_seat 13 = .ok (.getfield 11, 3) := by decide +kernel
theorem dX5_seat_16 : decode cX5_seat 16 = .ok (.iload_n 2, 1) := by decide +kernel
theorem dX5_seat_17 : decode cX5_seat 17 = .ok (.aaload, 1) := by decide +kernel
theorem dX5_seat_18 : decode cX5_seat 18 = .ok (.astore 4, 2) := by decide +kernel
theorem dX5_seat_20 : decode cX5_seat 20 = .ok (.aload 4, 2) := by decide +kernel
theorem dX5_seat_22 : decode cX5_seat 22 = .ok (.iload_n 1, 1) := by decide +kernel
theorem dX5_seat_23 : decode cX5_seat 23 = .ok (.invokevirtual 129, 3) := by decide +kernel
theorem dX5_seat_26 : decode cX5_seat 26 = .ok (.ifCond .ne 13, 3) := by decide +kernel
theorem dX5_seat_29 : decode cX5_seat 29 = .ok (.new 118, 3) := by decide +kernel
theorem dX5_seat_32 : decode cX5_seat 32 = .ok (.dup, 1) := by decide +kernel
theorem dX5_seat_33 : decode cX5_seat 33 = .ok (.ldc 133, 2) := by decide +kernel
theorem dX5_seat_35 : decode cX5_seat 35 = .ok (.invokespecial 122, 3) := by decide +kernel
theorem dX5_seat_38 : decode cX5_seat 38 = .ok (.athrow, 1) := by decide +kernel
theorem dX5_seat_39 : decode cX5_seat 39 = .ok (.aload_n 0, 1) := by decide +kernel
theorem dX5_seat_40 : decode cX5_seat 40 = .ok (.iload_n 1, 1) := by decide +kernel
theorem dX5_seat_41 : decode cX5_seat 41 = .ok (.invokevirtual 135, 3) := by decide +kernel
theorem dX5_seat_44 : decode cX5_seat 44 = .ok (.astore 5, 2) := by decide +kernel
theorem dX5_seat_46 : decode cX5_seat 46 = .ok (.aload_n 0, 1) := by decide +kernel
theorem dX5_seat_47 : decode cX5_seat 47 = .ok (.aload 4, 2) := by decide +kernel
theorem dX5_seat_49 : decode cX5_seat 49 = .ok (.invokevirtual 139, 3) := by decide +kernel
theorem dX5_seat_52 : decode cX5_seat 52 = .ok (.astore 6, 2) := by decide +kernel
theorem dX5_seat_54 : decode cX5_seat 54 = .ok (.iload_n 3, 1) := by decide +kernel
theorem dX5_seat_55 : decode cX5_seat 55 = .ok (.ifCond .eq 7, 3) := by decide +kernel
theorem dX5_seat_58 : decode cX5_seat 58 = .ok (.aconst_null, 1) := by decide +kernel
theorem dX5_seat_59 : decode cX5_seat 59 = .ok (.goto 8, 3) := by decide +kernel
theorem dX5_seat_62 : decode cX5_seat 62 = .ok (.aload_n 0, 1) := by decide +kernel
theorem dX5_seat_63 : decode cX5_seat 63 = .ok (.iload_n 2, 1) := by decide +kernel
theorem dX5_seat_64 : decode cX5_seat 64 = .ok (.invokevirtual 143, 3) := by decide +kernel
theorem dX5_seat_67 : decode cX5_seat 67 = .ok (.astore 7, 2) := by decide +kernel
theorem dX5_seat_69 : decode cX5_seat 69 = .ok (.aload_n 0, 1) := by decide +kernel
theorem dX5_seat_70 : decode cX5_seat 70 = .ok (.getfield 46, 3) := by decide +kernel
theorem dX5_seat_73 : decode cX5_seat 73 = .ok (.bipush 60, 2) := by decide +kernel
theorem dX5_seat_75 : decode cX5_seat 75 = .ok (.if_icmp .ge 22, 3) := by decide +kernel
theorem dX5_seat_78 : decode cX5_seat 78 = .ok (.aload 5, 2) := by decide +kernel
theorem dX5_seat_80 : decode cX5_seat 80 = .ok (.ifnull 17, 3) := by decide +kernel
theorem dX5_seat_83 : decode cX5_seat 83 = .ok (.aload 6, 2) := by decide +kernel
theorem dX5_seat_85 : decode cX5_seat 85 = .ok (.ifnull 12, 3) := by decide +kernel
theorem dX5_seat_88 : decode cX5_seat 88 = .ok (.iload_n 3, 1) := by decide +kernel
theorem dX5_seat_89 : decode cX5_seat 89 = .ok (.ifCond .ne 18, 3) := by decide +kernel
theorem dX5_seat_92 : decode cX5_seat 92 = .ok (.aload 7, 2) := by decide +kernel
theorem dX5_seat_94 : decode cX5_seat 94 = .ok (.ifnonnull 13, 3) := by decide +kernel
theorem dX5_seat_97 : decode cX5_seat 97 = .ok (.new 83, 3) := by decide +kernel
theorem dX5_seat_100 : decode cX5_seat 100 = .ok (.dup, 1) := by decide +kernel
theorem dX5_seat_101 : decode cX5_seat 101 = .ok (.ldc 147, 2) := by decide +kernel
theorem dX5_seat_103 : decode cX5_seat 103 = .ok (.invokespecial 87, 3) := by decide +kernel
theorem dX5_seat_106 : decode cX5_seat 106 = .ok (.athrow, 1) := by decide +kernel
theorem dX5_seat_107 : decode cX5_seat 107 = .ok (.aload 7, 2) := by decide +kernel
theorem dX5_seat_109 : decode cX5_seat 109 = .ok (.ifnull 18, 3) := by decide +kernel
theorem dX5_seat_112 : decode cX5_seat 112 = .ok (.aload 7, 2) := by decide +kernel
theorem dX5_seat_114 : decode cX5_seat 114 = .ok (.aload_n 0, 1) := by decide +kernel
theorem dX5_seat_115 : decode cX5_seat 115 = .ok (.getfield 49, 3) := by decide +kernel
theorem dX5_seat_118 : decode cX5_seat 118 = .ok (.aload 4, 2) := by decide +kernel
theorem dX5_seat_120 : decode cX5_seat 120 = .ok (.getfield 70, 3) := by decide +kernel
theorem dX5_seat_123 : decode cX5_seat 123 = .ok (.iadd, 1) := by decide +kernel
theorem dX5_seat_124 : decode cX5_seat 124 = .ok (.putfield 149, 3) := by decide +kernel
theorem dX5_seat_127 : decode cX5_seat 127 = .ok (.aload_n 0, 1) := by decide +kernel
theorem dX5_seat_128 : decode cX5_seat 128 = .ok (.getfield 46, 3) := by decide +kernel
theorem dX5_seat_131 : decode cX5_seat 131 = .ok (.istore 8, 2) := by decide +kernel
theorem dX5_seat_133 : decode cX5_seat 133 = .ok (.aload_n 0, 1) := by decide +kernel
theorem dX5_seat_134 : decode cX5_seat 134 = .ok (.getfield 35, 3) := by decide +kernel
theorem dX5_seat_137 : decode cX5_seat 137 = .ok (.iload 8, 2) := by decide +kernel
theorem dX5_seat_139 : decode cX5_seat 139 = .ok (.new 33, 3) := by decide +kernel
theorem dX5_seat_142 : decode cX5_seat 142 = .ok (.dup, 1) := by decide +kernel
theorem dX5_seat_143 : decode cX5_seat 143 = .ok (.iload_n 1, 1) := by decide +kernel
theorem dX5_seat_144 : decode cX5_seat 144 = .ok (.aload 5, 2) := by decide +kernel
theorem dX5_seat_146 : decode cX5_seat 146 = .ok (.aload 6, 2) := by decide +kernel
theorem dX5_seat_148 : decode cX5_seat 148 = .ok (.aload_n 0, 1) := by decide +kernel
theorem dX5_seat_149 : decode cX5_seat 149 = .ok (.getfield 49, 3) := by decide +kernel
theorem dX5_seat_152 : decode cX5_seat 152 = .ok (.invokespecial 152, 3) := by decide +kernel
theorem dX5_seat_155 : decode cX5_seat 155 = .ok (.aastore, 1) := by decide +kernel
theorem dX5_seat_156 : decode cX5_seat 156 = .ok (.aload_n 0, 1) := by decide +kernel
theorem dX5_seat_157 : decode cX5_seat 157 = .ok (.iload 8, 2) := by decide +kernel
theorem dX5_seat_159 : decode cX5_seat 159 = .ok (.iconst 1, 1) := by decide +kernel
theorem dX5_seat_160 : decode cX5_seat 160 = .ok (.iadd, 1) := by decide +kernel
theorem dX5_seat_161 : decode cX5_seat 161 = .ok (.putfield 46, 3) := by decide +kernel
theorem dX5_seat_164 : decode cX5_seat 164 = .ok (.aload 5, 2) := by decide +kernel
theorem dX5_seat_166 : decode cX5_seat 166 = .ok (.iload 8, 2) := by decide +kernel
theorem dX5_seat_168 : decode cX5_seat 168 = .ok (.putfield 80, 3) := by decide +kernel
theorem dX5_seat_171 : decode cX5_seat 171 = .ok (.aload 6, 2) := by decide +kernel
theorem dX5_seat_173 : decode cX5_seat 173 = .ok (.iconst 1, 1) := by decide +kernel
theorem dX5_seat_174 : decode cX5_seat 174 = .ok (.putfield 109, 3) := by decide +kernel
theorem dX5_seat_177 : decode cX5_seat 177 = .ok (.iload 8, 2) := by decide +kernel
theorem dX5_seat_179 : decode cX5_seat 179 = .ok (.ireturn, 1) := by decide +kernel
set_option maxRecDepth 20000 in
theorem ggX5_grow_X5_groupNumbered : GoodIn wsX5_grow wsX5_groupNumbered := goodIn_ca (goodIn_r _ [15, 16, 17, 18, 46, 47, 48, 49, 50, 51, 52, 53, 54] (by decide +kernel) (by decide +kernel)) (goodIn_sub (fun _ h => List.mem_cons_of_mem _ (List.mem_append_left _ (List.mem_append_right _ h))) (by decide +kernel))
set_option maxRecDepth 20000 in
theorem gX5_grow_X5_groupNumbered : GoodIn wsX5_grow (wsV RX5 155 RX5 yX5_groupNumbered wsX5_groupNumbered) := goodIn_app (goodIn_of _ (by decide +kernel)) ggX5_grow_X5_groupNumbered
set_option maxRecDepth 20000 in
theorem ggX5_grow_X5_checkRange : GoodIn wsX5_grow wsX5_checkRange := goodIn_ca (goodIn_r _ [21, 22, 23] (by decide +kernel) (by decide +kernel)) (goodIn_sub (fun _ h => List.mem_cons_of_mem _ (List.mem_append_right _ h)) (by decide +kernel))
set_option maxRecDepth 20000 in
theorem gX5_grow_X5_checkRange : GoodIn wsX5_grow (va_wsS RX5 60 yX5_checkRange wsX5_checkRange) := goodIn_app (goodIn_of _ (by decide +kernel)) ggX5_grow_X5_checkRange
set_option maxRecDepth 20000 in
theorem ggX5_grow_X5_freeTableFor : GoodIn wsX5_grow wsX5_freeTableFor := goodIn_r _ [27, 28, 9, 8, 46, 47, 48, 49, 50, 51, 52, 53, 54, 43, 44, 45] (by decide +kernel) (by decide +kernel)
set_option maxRecDepth 20000 in
theorem gX5_grow_X5_freeTableFor : GoodIn wsX5_grow (wsV RX5 135 RX5 yX5_freeTableFor wsX5_freeTableFor) := goodIn_app (goodIn_of _ (by decide +kernel)) ggX5_grow_X5_freeTableFor
theorem dX5_grow_0 : decode cX5_grow 0 = .ok (.aload_n 0, 1) := by decide +kernel
theorem dX5_grow_1 : decode cX5_grow 1 = .ok (.iload_n 1, 1) := by decide +kernel
theorem dX5_grow_2 : decode cX5_grow 2 = .ok (.invokevirtual 155, 3) := by decide +kernel
theorem dX5_grow_5 : decode cX5_grow 5 = .ok (.astore_n 3, 1) := by decide +kernel
theorem dX5_grow_6 : decode cX5_grow 6 = .ok (.iload_n 2, 1) := by decide +kernel
theorem dX5_grow_7 : decode cX5_grow 7 = .ok (.iconst 1, 1) := by decide +kernel
theorem dX5_grow_8 : decode cX5_grow 8 = .ok (.bipush 7, 2) := by decide +kernel
theorem dX5_grow_10 : decode cX5_grow 10 = .ok (.invokestatic 60, 3) := by decide +kernel
theorem dX5_grow_13 : decode cX5_grow 13 = .ok (.aload_n 3, 1) := by decide +kernel
theorem dX5_grow_14 : decode cX5_grow 14 = .ok (.getfield 159, 3) := by decide +kernel
theorem dX5_grow_17 : decode cX5_grow 17 = .ok (.iload_n 2, 1) := by decide +kernel
theorem dX5_grow_18 : decode cX5_grow 18 = .ok (.iadd, 1) := by decide +kernel
theorem dX5_grow_19 : decode cX5_grow 19 = .ok (.istore 4, 2) := by decide +kernel
theorem dX5_grow_21 : decode cX5_grow 21 = .ok (.iload 4, 2) := by decide +kernel
theorem dX5_grow_23 : decode cX5_grow 23 = .ok (.aload_n 3, 1) := by decide +kernel
theorem dX5_grow_24 : decode cX5_grow 24 = .ok (.getfield 162, 3) := by decide +kernel
theorem dX5_grow_27 : decode cX5_grow 27 = .ok (.getfield 114, 3) := by decide +kernel
theorem dX5_grow_30 : decode cX5_grow 30 = .ok (.getfield 67, 3) := by decide +kernel
theorem dX5_grow_33 : decode cX5_grow 33 = .ok (.if_icmp .le 13, 3) := by decide +kernel
theorem dX5_grow_36 : decode cX5_grow 36 = .ok (.new 83, 3) := by decide +kernel
theorem dX5_grow_39 : decode cX5_grow 39 = .ok (.dup, 1) := by decide +kernel
theorem dX5_grow_40 : decode cX5_grow 40 = .ok (.ldc 133, 2) := by decide +kernel
theorem dX5_grow_42 : decode cX5_grow 42 = .ok (.invokespecial 87, 3) := by decide +kernel
theorem dX5_grow_45 : decode cX5_grow 45 = .ok (.athrow, 1) := by decide +kernel
theorem dX5_grow_46 : decode cX5_grow 46 = .ok (.iload 4, 2) := by decide +kernel
theorem dX5_grow_48 : decode cX5_grow 48 = .ok (.aload_n 3, 1) := by decide +kernel
theorem dX5_grow_49 : decode cX5_grow 49 = .ok (.getfield 166, 3) := by decide +kernel
theorem dX5_grow_52 : decode cX5_grow 52 = .ok (.getfield 90, 3) := by decide +kernel
theorem dX5_grow_55 : decode cX5_grow 55 = .ok (.if_icmp .gt 10, 3) := by decide +kernel
theorem dX5_grow_58 : decode cX5_grow 58 = .ok (.aload_n 3, 1) := by decide +kernel
theorem dX5_grow_59 : decode cX5_grow 59 = .ok (.getfield 166, 3) := by decide +kernel
theorem dX5_grow_62 : decode cX5_grow 62 = .ok (.goto 9, 3) := by decide +kernel
theorem dX5_grow_65 : decode cX5_grow 65 = .ok (.aload_n 0, 1) := by decide +kernel
theorem dX5_grow_66 : decode cX5_grow 66 = .ok (.iload 4, 2) := by decide +kernel
theorem dX5_grow_68 : decode cX5_grow 68 = .ok (.invokevirtual 135, 3) := by decide +kernel
theorem dX5_grow_71 : decode cX5_grow 71 = .ok (.astore 5, 2) := by decide +kernel
theorem dX5_grow_73 : decode cX5_grow 73 = .ok (.aload 5, 2) := by decide +kernel
theorem dX5_grow_75 : decode cX5_grow 75 = .ok (.ifnonnull 13, 3) := by decide +kernel
theorem dX5_grow_78 : decode cX5_grow 78 = .ok (.new 83, 3) := by decide +kernel
theorem dX5_grow_81 : decode cX5_grow 81 = .ok (.dup, 1) := by decide +kernel
theorem dX5_grow_82 : decode cX5_grow 82 = .ok (.ldc 170, 2) := by decide +kernel
theorem dX5_grow_84 : decode cX5_grow 84 = .ok (.invokespecial 87, 3) := by decide +kernel
theorem dX5_grow_87 : decode cX5_grow 87 = .ok (.athrow, 1) := by decide +kernel
theorem dX5_grow_88 : decode cX5_grow 88 = .ok (.aload_n 3, 1) := by decide +kernel
theorem dX5_grow_89 : decode cX5_grow 89 = .ok (.getfield 166, 3) := by decide +kernel
theorem dX5_grow_92 : decode cX5_grow 92 = .ok (.iconst (-1), 1) := by decide +kernel
theorem dX5_grow_93 : decode cX5_grow 93 = .ok (.putfield 80, 3) := by decide +kernel
theorem dX5_grow_96 : decode cX5_grow 96 = .ok (.aload 5, 2) := by decide +kernel
theorem dX5_grow_98 : decode cX5_grow 98 = .ok (.iload_n 1, 1) := by decide +kernel
theorem dX5_grow_99 : decode cX5_grow 99 = .ok (.putfield 80, 3) := by decide +kernel
theorem dX5_grow_102 : decode cX5_grow 102 = .ok (.aload_n 3, 1) := by decide +kernel
theorem dX5_grow_103 : decode cX5_grow 103 = .ok (.aload 5, 2) := by decide +kernel
theorem dX5_grow_105 : decode cX5_grow 105 = .ok (.putfield 166, 3) := by decide +kernel
theorem dX5_grow_108 : decode cX5_grow 108 = .ok (.aload_n 3, 1) := by decide +kernel
theorem dX5_grow_109 : decode cX5_grow 109 = .ok (.iload 4, 2) := by decide +kernel
theorem dX5_grow_111 : decode cX5_grow 111 = .ok (.putfield 159, 3) := by decide +kernel
theorem dX5_grow_114 : decode cX5_grow 114 = .ok (.aload 5, 2) := by decide +kernel
theorem dX5_grow_116 : decode cX5_grow 116 = .ok (.getfield 172, 3) := by decide +kernel
theorem dX5_grow_119 : decode cX5_grow 119 = .ok (.ireturn, 1) := by decide +kernel
set_option maxRecDepth 20000 in
theorem ggX5_go_X5_groupNumbered : GoodIn wsX5_go wsX5_groupNumbered := goodIn_ca (goodIn_r _ [14, 15, 16, 7, 34, 35, 36, 37, 38, 39, 40, 41, 42] (by decide +kernel) (by decide +kernel)) (goodIn_sub (fun _ h => List.mem_cons_of_mem _ (List.mem_append_right _ h)) (by decide +kernel))
set_option maxRecDepth 20000 in
theorem gX5_go_X5_groupNumbered : GoodIn wsX5_go (wsV RX5 155 RX5 yX5_groupNumbered wsX5_groupNumbered) := goodIn_app (goodIn_of _ (by decide +kernel)) ggX5_go_X5_groupNumbered
theorem dX5_go_0 : decode cX5_go 0 = .ok (.aload_n 0, 1) := by decide +kernel
theorem dX5_go_1 : decode cX5_go 1 = .ok (.iload_n 1, 1) := by decide +kernel
theorem dX5_go_2 : decode cX5_go 2 = .ok (.invokevirtual 155, 3) := by decide +kernel
theorem dX5_go_5 : decode cX5_go 5 = .ok (.astore_n 2, 1) := by decide +kernel
theorem dX5_go_6 : decode cX5_go 6 = .ok (.aload_n 2, 1) := by decide +kernel
theorem dX5_go_7 : decode cX5_go 7 = .ok (.getfield 166, 3) := by decide +kernel
theorem dX5_go_10 : decode cX5_go 10 = .ok (.iconst (-1), 1) := by decide +kernel
theorem dX5_go_11 : decode cX5_go 11 = .ok (.putfield 80, 3) := by decide +kernel
theorem dX5_go_14 : decode cX5_go 14 = .ok (.aload_n 2, 1) := by decide +kernel
theorem dX5_go_15 : decode cX5_go 15 = .ok (.getfield 162, 3) := by decide +kernel
theorem dX5_go_18 : decode cX5_go 18 = .ok (.iconst 0, 1) := by decide +kernel
theorem dX5_go_19 : decode cX5_go 19 = .ok (.putfield 109, 3) := by decide +kernel
theorem dX5_go_22 : decode cX5_go 22 = .ok (.aload_n 2, 1) := by decide +kernel
theorem dX5_go_23 : decode cX5_go 23 = .ok (.getfield 162, 3) := by decide +kernel
theorem dX5_go_26 : decode cX5_go 26 = .ok (.getfield 114, 3) := by decide +kernel
theorem dX5_go_29 : decode cX5_go 29 = .ok (.dup, 1) := by decide +kernel
theorem dX5_go_30 : decode cX5_go 30 = .ok (.getfield 175, 3) := by decide +kernel
theorem dX5_go_33 : decode cX5_go 33 = .ok (.iconst 1, 1) := by decide +kernel
theorem dX5_go_34 : decode cX5_go 34 = .ok (.iadd, 1) := by decide +kernel
theorem dX5_go_35 : decode cX5_go 35 = .ok (.putfield 175, 3) := by decide +kernel
theorem dX5_go_38 : decode cX5_go 38 = .ok (.aload_n 0, 1) := by decide +kernel
theorem dX5_go_39 : decode cX5_go 39 = .ok (.getfield 35, 3) := by decide +kernel
theorem dX5_go_42 : decode cX5_go 42 = .ok (.iload_n 1, 1) := by decide +kernel
theorem dX5_go_43 : decode cX5_go 43 = .ok (.aconst_null, 1) := by decide +kernel
theorem dX5_go_44 : decode cX5_go 44 = .ok (.aastore, 1) := by decide +kernel
theorem dX5_go_45 : decode cX5_go 45 = .ok (.aload_n 0, 1) := by decide +kernel
theorem dX5_go_46 : decode cX5_go 46 = .ok (.getfield 49, 3) := by decide +kernel
theorem dX5_go_49 : decode cX5_go 49 = .ok (.aload_n 2, 1) := by decide +kernel
theorem dX5_go_50 : decode cX5_go 50 = .ok (.getfield 178, 3) := by decide +kernel
theorem dX5_go_53 : decode cX5_go 53 = .ok (.isub, 1) := by decide +kernel
theorem dX5_go_54 : decode cX5_go 54 = .ok (.ireturn, 1) := by decide +kernel
set_option maxRecDepth 20000 in
theorem ggX5_advance_X5_checkRange : GoodIn wsX5_advance wsX5_checkRange := goodIn_ca (goodIn_r _ [8, 9, 10] (by decide +kernel) (by decide +kernel)) (goodIn_sub (fun _ h => List.mem_cons_of_mem _ (List.mem_append_right _ h)) (by decide +kernel))
set_option maxRecDepth 20000 in
theorem gX5_advance_X5_checkRange : GoodIn wsX5_advance (va_wsS RX5 60 yX5_checkRange wsX5_checkRange) := goodIn_app (goodIn_of _ (by decide +kernel)) ggX5_advance_X5_checkRange
theorem dX5_advance_0 : decode cX5_advance 0 = .ok (.iload_n 1, 1) := by decide +kernel
theorem dX5_advance_1 : decode cX5_advance 1 = .ok (.iconst 1, 1) := by decide +kernel
theorem dX5_advance_2 : decode cX5_advance 2 = .ok (.sipush 1000, 3) := by decide +kernel
theorem dX5_advance_5 : decode cX5_advance 5 = .ok (.invokestatic 60, 3) := by decide +kernel
theorem dX5_advance_8 : decode cX5_advance 8 = .ok (.aload_n 0, 1) := by decide +kernel
theorem dX5_advance_9 : decode cX5_advance 9 = .ok (.getfield 49, 3) := by decide +kernel
theorem dX5_advance_12 : decode cX5_advance 12 = .ok (.iload_n 1, 1) := by decide +kernel
theorem dX5_advance_13 : decode cX5_advance 13 = .ok (.iadd, 1) := by decide +kernel
theorem dX5_advance_14 : decode cX5_advance 14 = .ok (.ldc 181, 2) := by decide +kernel
theorem dX5_advance_16 : decode cX5_advance 16 = .ok (.if_icmp .le 13, 3) := by decide +kernel
theorem dX5_advance_19 : decode cX5_advance 19 = .ok (.new 83, 3) := by decide +kernel
theorem dX5_advance_22 : decode cX5_advance 22 = .ok (.dup, 1) := by decide +kernel
theorem dX5_advance_23 : decode cX5_advance 23 = .ok (.ldc 182, 2) := by decide +kernel
theorem dX5_advance_25 : decode cX5_advance 25 = .ok (.invokespecial 87, 3) := by decide +kernel
theorem dX5_advance_28 : decode cX5_advance 28 = .ok (.athrow, 1) := by decide +kernel
theorem dX5_advance_29 : decode cX5_advance 29 = .ok (.aload_n 0, 1) := by decide +kernel
theorem dX5_advance_30 : decode cX5_advance 30 = .ok (.dup, 1) := by decide +kernel
theorem dX5_advance_31 : decode cX5_advance 31 = .ok (.getfield 49, 3) := by decide +kernel
theorem dX5_advance_34 : decode cX5_advance 34 = .ok (.iload_n 1, 1) := by decide +kernel
theorem dX5_advance_35 : decode cX5_advance 35 = .ok (.iadd, 1) := by decide +kernel
theorem dX5_advance_36 : decode cX5_advance 36 = .ok (.putfield 49, 3) := by decide +kernel
theorem dX5_advance_39 : decode cX5_advance 39 = .ok (.aload_n 0, 1) := by decide +kernel
theorem dX5_advance_40 : decode cX5_advance 40 = .ok (.getfield 49, 3) := by decide +kernel
theorem dX5_advance_43 : decode cX5_advance 43 = .ok (.ireturn, 1) := by decide +kernel
set_option maxRecDepth 20000 in
theorem ggX5_lend_X5_copyNumbered : GoodIn wsX5_lend wsX5_copyNumbered := goodIn_ca (goodIn_r _ [9, 10, 11, 12, 28, 29, 30, 31, 32, 33, 34, 35, 36] (by decide +kernel) (by decide +kernel)) (goodIn_sub (fun _ h => List.mem_cons_of_mem _ (List.mem_append_right _ h)) (by decide +kernel))
set_option maxRecDepth 20000 in
theorem gX5_lend_X5_copyNumbered : GoodIn wsX5_lend (wsV RX5 102 RX5 yX5_copyNumbered wsX5_copyNumbered) := goodIn_app (goodIn_of _ (by decide +kernel)) ggX5_lend_X5_copyNumbered
set_option maxRecDepth 20000 in
theorem ggX5_lend_X5_checkNumber : GoodIn wsX5_lend wsX5_checkNumber := goodIn_ca (goodIn_r _ [15, 10, 11] (by decide +kernel) (by decide +kernel)) (goodIn_sub (fun _ h => List.mem_cons_of_mem _ (List.mem_append_right _ h)) (by decide +kernel))
set_option maxRecDepth 20000 in
theorem gX5_lend_X5_checkNumber : GoodIn wsX5_lend (va_wsS RX5 57 yX5_checkNumber wsX5_checkNumber) := goodIn_app (goodIn_of _ (by decide +kernel)) ggX5_lend_X5_checkNumber
set_option maxRecDepth 20000 in
theorem ggX5_lend_X0_worth : GoodIn wsX5_lend wsX0_worth := goodIn_r _ [20, 21, 22, 8, 23, 24, 25, 26, 27] (by decide +kernel) (by decide +kernel)
set_option maxRecDepth 20000 in
theorem gX5_lend_X0_worth : GoodIn wsX5_lend (wsV RX5 186 RX0 yX0_worth wsX0_worth) := goodIn_app (goodIn_of _ (by decide +kernel)) ggX5_lend_X0_worth
theorem dX5_lend_0 : decode cX5_lend 0 = .ok (.aload_n 0, 1) := by decide +kernel
theorem dX5_lend_1 : decode cX5_lend 1 = .ok (.iload_n 1, 1) := by decide +kernel
theorem dX5_lend_2 : decode cX5_lend 2 = .ok (.invokevirtual 102, 3) := by decide +kernel
theorem dX5_lend_5 : decode cX5_lend 5 = .ok (.astore_n 3, 1) := by decide +kernel
theorem dX5_lend_6 : decode cX5_lend 6 = .ok (.iload_n 2, 1) := by decide +kernel
theorem dX5_lend_7 : decode cX5_lend 7 = .ok (.bipush 6, 2) := by decide +kernel
theorem dX5_lend_9 : decode cX5_lend 9 = .ok (.invokestatic 57, 3) := by decide +kernel
theorem dX5_lend_12 : decode cX5_lend 12 = .ok (.aload_n 3, 1) := by decide +kernel
theorem dX5_lend_13 : decode cX5_lend 13 = .ok (.getfield 109, 3) := by decide +kernel
theorem dX5_lend_16 : decode cX5_lend 16 = .ok (.ifCond .ne 12, 3) := by decide +kernel
theorem dX5_lend_19 : decode cX5_lend 19 = .ok (.aload_n 0, 1) := by decide +kernel
theorem dX5_lend_20 : decode cX5_lend 20 = .ok (.getfield 39, 3) := by decide +kernel
theorem dX5_lend_23 : decode cX5_lend 23 = .ok (.iload_n 2, 1) := by decide +kernel
theorem dX5_lend_24 : decode cX5_lend 24 = .ok (.aaload, 1) := by decide +kernel
theorem dX5_lend_25 : decode cX5_lend 25 = .ok (.ifnull 13, 3) := by decide +kernel
theorem dX5_lend_28 : decode cX5_lend 28 = .ok (.new 83, 3) := by decide +kernel
theorem dX5_lend_31 : decode cX5_lend 31 = .ok (.dup, 1) := by decide +kernel
theorem dX5_lend_32 : decode cX5_lend 32 = .ok (.ldc 184, 2) := by decide +kernel
theorem dX5_lend_34 : decode cX5_lend 34 = .ok (.invokespecial 87, 3) := by decide +kernel
theorem dX5_lend_37 : decode cX5_lend 37 = .ok (.athrow, 1) := by decide +kernel
theorem dX5_lend_38 : decode cX5_lend 38 = .ok (.aload_n 3, 1) := by decide +kernel
theorem dX5_lend_39 : decode cX5_lend 39 = .ok (.iconst 2, 1) := by decide +kernel
theorem dX5_lend_40 : decode cX5_lend 40 = .ok (.putfield 109, 3) := by decide +kernel
theorem dX5_lend_43 : decode cX5_lend 43 = .ok (.aload_n 0, 1) := by decide +kernel
theorem dX5_lend_44 : decode cX5_lend 44 = .ok (.getfield 39, 3) := by decide +kernel
theorem dX5_lend_47 : decode cX5_lend 47 = .ok (.iload_n 2, 1) := by decide +kernel
theorem dX5_lend_48 : decode cX5_lend 48 = .ok (.aload_n 3, 1) := by decide +kernel
theorem dX5_lend_49 : decode cX5_lend 49 = .ok (.aastore, 1) := by decide +kernel
theorem dX5_lend_50 : decode cX5_lend 50 = .ok (.aload_n 3, 1) := by decide +kernel
theorem dX5_lend_51 : decode cX5_lend 51 = .ok (.invokevirtual 186, 3) := by decide +kernel
theorem dX5_lend_54 : decode cX5_lend 54 = .ok (.ireturn, 1) := by decide +kernel
set_option maxRecDepth 20000 in
theorem ggX5_giveBack_X5_checkNumber : GoodIn wsX5_giveBack wsX5_checkNumber := goodIn_ca (goodIn_r _ [9, 10, 11] (by decide +kernel) (by decide +kernel)) (goodIn_sub (fun _ h => List.mem_cons_of_mem _ (List.mem_append_left _ (List.mem_append_right _ h))) (by decide +kernel))
set_option maxRecDepth 20000 in
theorem gX5_giveBack_X5_checkNumber : GoodIn wsX5_giveBack (va_wsS RX5 57 yX5_checkNumber wsX5_checkNumber) := goodIn_app (goodIn_of _ (by decide +kernel)) ggX5_giveBack_X5_checkNumber
set_option maxRecDepth 20000 in
theorem ggX5_giveBack_X5_checkRange : GoodIn wsX5_giveBack wsX5_checkRange := goodIn_ca (goodIn_r _ [14, 15, 16] (by decide +kernel) (by decide +kernel)) (goodIn_sub (fun _ h => List.mem_cons_of_mem _ (List.mem_append_right _ h)) (by decide +kernel))
set_option maxRecDepth 20000 in
theorem gX5_giveBack_X5_checkRange : GoodIn wsX5_giveBack (va_wsS RX5 60 yX5_checkRange wsX5_checkRange) := goodIn_app (goodIn_of _ (by decide +kernel)) ggX5_giveBack_X5_checkRange
set_option maxRecDepth 20000 in
theorem ggX5_giveBack_X0_worth : GoodIn wsX5_giveBack wsX0_worth := goodIn_r _ [21, 22, 23, 8, 24, 35, 36, 37, 38] (by decide +kernel) (by decide +kernel)
set_option maxRecDepth 20000 in
theorem gX5_giveBack_X0_worth : GoodIn wsX5_giveBack (wsV RX5 186 RX0 yX0_worth wsX0_worth) := goodIn_app (goodIn_of _ (by decide +kernel)) ggX5_giveBack_X0_worth
set_option maxRecDepth 20000 in
theorem ggX5_giveBack_X5_worthOfPart : GoodIn wsX5_giveBack wsX5_worthOfPart := goodIn_r _ [24] (by decide +kernel) (by decide +kernel)
set_option maxRecDepth 20000 in
theorem gX5_giveBack_X5_worthOfPart : GoodIn wsX5_giveBack (va_wsS RX5 192 yX5_worthOfPart wsX5_worthOfPart) := goodIn_app (goodIn_of _ (by decide +kernel)) ggX5_giveBack_X5_worthOfPart
theorem dX5_giveBack_0 : decode cX5_giveBack 0 = .ok (.iload_n 1, 1) := by decide +kernel
theorem dX5_giveBack_1 : decode cX5_giveBack 1 = .ok (.bipush 6, 2) := by decide +kernel
theorem dX5_giveBack_3 : decode cX5_giveBack 3 = .ok (.invokestatic 57, 3) := by decide +kernel
theorem dX5_giveBack_6 : decode cX5_giveBack 6 = .ok (.iload_n 2, 1) := by decide +kernel
theorem dX5_giveBack_7 : decode cX5_giveBack 7 = .ok (.iconst 4, 1) := by decide +kernel
theorem dX5_giveBack_8 : decode cX5_giveBack 8 = .ok (.invokestatic 57, 3) := by decide +kernel
theorem dX5_giveBack_11 : decode cX5_giveBack 11 = .ok (.iload_n 3, 1) := by decide +kernel
theorem dX5_giveBack_12 : decode cX5_giveBack 12 = .ok (.iconst 0, 1) := by decide +kernel
theorem dX5_giveBack_13 : decode cX5_giveBack 13 = .ok (.bipush 20, 2) := by decide +kernel
theorem dX5_giveBack_15 : decode cX5_giveBack 15 = .ok (.invokestatic 60, 3) := by decide +kernel
theorem dX5_giveBack_18 : decode cX5_giveBack 18 = .ok (.aload_n 0, 1) := by decide +kernel
theorem dX5_giveBack_19 : decode cX5_giveBack 19 = .ok (.getfield 39, 3) := by decide +kernel
theorem dX5_giveBack_22 : decode cX5_giveBack 22 = .ok (.iload_n 1, 1) := by decide +kernel
theorem dX5_giveBack_23 : decode cX5_giveBack 23 = .ok (.aaload, 1) := by decide +kernel
theorem dX5_giveBack_24 : decode cX5_giveBack 24 = .ok (.astore 4, 2) := by decide +kernel
theorem dX5_giveBack_26 : decode cX5_giveBack 26 = .ok (.aload 4, 2) := by decide +kernel
theorem dX5_giveBack_28 : decode cX5_giveBack 28 = .ok (.ifnull 14, 3) := by decide +kernel
theorem dX5_giveBack_31 : decode cX5_giveBack 31 = .ok (.aload 4, 2) := by decide +kernel
theorem dX5_giveBack_33 : decode cX5_giveBack 33 = .ok (.getfield 106, 3) := by decide +kernel
theorem dX5_giveBack_36 : decode cX5_giveBack 36 = .ok (.iload_n 2, 1) := by decide +kernel
theorem dX5_giveBack_37 : decode cX5_giveBack 37 = .ok (.iaload, 1) := by decide +kernel
theorem dX5_giveBack_38 : decode cX5_giveBack 38 = .ok (.iload_n 3, 1) := by decide +kernel
theorem dX5_giveBack_39 : decode cX5_giveBack 39 = .ok (.if_icmp .ge 13, 3) := by decide +kernel
theorem dX5_giveBack_42 : decode cX5_giveBack 42 = .ok (.new 83, 3) := by decide +kernel
theorem dX5_giveBack_45 : decode cX5_giveBack 45 = .ok (.dup, 1) := by decide +kernel
theorem dX5_giveBack_46 : decode cX5_giveBack 46 = .ok (.ldc 190, 2) := by decide +kernel
theorem dX5_giveBack_48 : decode cX5_giveBack 48 = .ok (.invokespecial 87, 3) := by decide +kernel
theorem dX5_giveBack_51 : decode cX5_giveBack 51 = .ok (.athrow, 1) := by decide +kernel
theorem dX5_giveBack_52 : decode cX5_giveBack 52 = .ok (.aload 4, 2) := by decide +kernel
theorem dX5_giveBack_54 : decode cX5_giveBack 54 = .ok (.invokevirtual 186, 3) := by decide +kernel
theorem dX5_giveBack_57 : decode cX5_giveBack 57 = .ok (.istore 5, 2) := by decide +kernel
theorem dX5_giveBack_59 : decode cX5_giveBack 59 = .ok (.aload 4, 2) := by decide +kernel
theorem dX5_giveBack_61 : decode cX5_giveBack 61 = .ok (.getfield 106, 3) := by decide +kernel
theorem dX5_giveBack_64 : decode cX5_giveBack 64 = .ok (.iload_n 2, 1) := by decide +kernel
theorem dX5_giveBack_65 : decode cX5_giveBack 65 = .ok (.dup2, 1) := by decide +kernel
theorem dX5_giveBack_66 : decode cX5_giveBack 66 = .ok (.iaload, 1) := by decide +kernel
theorem dX5_giveBack_67 : decode cX5_giveBack 67 = .ok (.iload_n 3, 1) := by decide +kernel
theorem dX5_giveBack_68 : decode cX5_giveBack 68 = .ok (.isub, 1) := by decide +kernel
theorem dX5_giveBack_69 : decode cX5_giveBack 69 = .ok (.iastore, 1) := by decide +kernel
theorem dX5_giveBack_70 : decode cX5_giveBack 70 = .ok (.aload 4, 2) := by decide +kernel
theorem dX5_giveBack_72 : decode cX5_giveBack 72 = .ok (.iconst 0, 1) := by decide +kernel
theorem dX5_giveBack_73 : decode cX5_giveBack 73 = .ok (.putfield 109, 3) := by decide +kernel
theorem dX5_giveBack_76 : decode cX5_giveBack 76 = .ok (.aload_n 0, 1) := by decide +kernel
theorem dX5_giveBack_77 : decode cX5_giveBack 77 = .ok (.getfield 39, 3) := by decide +kernel
theorem dX5_giveBack_80 : decode cX5_giveBack 80 = .ok (.iload_n 1, 1) := by decide +kernel
theorem dX5_giveBack_81 : decode cX5_giveBack 81 = .ok (.aconst_null, 1) := by decide +kernel
theorem dX5_giveBack_82 : decode cX5_giveBack 82 = .ok (.aastore, 1) := by decide +kernel
theorem dX5_giveBack_83 : decode cX5_giveBack 83 = .ok (.iload 5, 2) := by decide +kernel
theorem dX5_giveBack_85 : decode cX5_giveBack 85 = .ok (.iload_n 3, 1) := by decide +kernel
theorem dX5_giveBack_86 : decode cX5_giveBack 86 = .ok (.iload_n 2, 1) := by decide +kernel
theorem dX5_giveBack_87 : decode cX5_giveBack 87 = .ok (.invokestatic 192, 3) := by decide +kernel
theorem dX5_giveBack_90 : decode cX5_giveBack 90 = .ok (.imul, 1) := by decide +kernel
theorem dX5_giveBack_91 : decode cX5_giveBack 91 = .ok (.isub, 1) := by decide +kernel
theorem dX5_giveBack_92 : decode cX5_giveBack 92 = .ok (.ireturn, 1) := by decide +kernel
theorem dX5_minute_0 : decode cX5_minute 0 = .ok (.aload_n 0, 1) := by decide +kernel
theorem dX5_minute_1 : decode cX5_minute 1 = .ok (.getfield 49, 3) := by decide +kernel
theorem dX5_minute_4 : decode cX5_minute 4 = .ok (.ireturn, 1) := by decide +kernel
theorem dX5_copies_0 : decode cX5_copies 0 = .ok (.aload_n 0, 1) := by decide +kernel
theorem dX5_copies_1 : decode cX5_copies 1 = .ok (.getfield 42, 3) := by decide +kernel
theorem dX5_copies_4 : decode cX5_copies 4 = .ok (.ireturn, 1) := by decide +kernel
set_option maxRecDepth 20000 in
theorem ggX5_parts_X5_copyNumbered : GoodIn wsX5_parts wsX5_copyNumbered := goodIn_ca (goodIn_r _ [6, 7, 8, 9, 17, 18, 19, 20, 21, 22, 23, 24, 25] (by decide +kernel) (by decide +kernel)) (goodIn_sub (fun _ h => List.mem_cons_of_mem _ (List.mem_append_right _ h)) (by decide +kernel))
set_option maxRecDepth 20000 in
theorem gX5_parts_X5_copyNumbered : GoodIn wsX5_parts (wsV RX5 102 RX5 yX5_copyNumbered wsX5_copyNumbered) := goodIn_app (goodIn_of _ (by decide +kernel)) ggX5_parts_X5_copyNumbered
set_option maxRecDepth 20000 in
theorem ggX5_parts_X5_checkNumber : GoodIn wsX5_parts wsX5_checkNumber := goodIn_ca (goodIn_r _ [12, 7, 8] (by decide +kernel) (by decide +kernel)) (goodIn_sub (fun _ h => List.mem_cons_of_mem _ (List.mem_append_right _ h)) (by decide +kernel))
set_option maxRecDepth 20000 in
theorem gX5_parts_X5_checkNumber : GoodIn wsX5_parts (va_wsS RX5 57 yX5_checkNumber wsX5_checkNumber) := goodIn_app (goodIn_of _ (by decide +kernel)) ggX5_parts_X5_checkNumber
theorem dX5_parts_0 : decode cX5_parts 0 = .ok (.aload_n 0, 1) := by decide +kernel
theorem dX5_parts_1 : decode cX5_parts 1 = .ok (.iload_n 1, 1) := by decide +kernel
theorem dX5_parts_2 : decode cX5_parts 2 = .ok (.invokevirtual 102, 3) := by decide +kernel
theorem dX5_parts_5 : decode cX5_parts 5 = .ok (.astore_n 3, 1) := by decide +kernel
theorem dX5_parts_6 : decode cX5_parts 6 = .ok (.iload_n 2, 1) := by decide +kernel
theorem dX5_parts_7 : decode cX5_parts 7 = .ok (.iconst 4, 1) := by decide +kernel
theorem dX5_parts_8 : decode cX5_parts 8 = .ok (.invokestatic 57, 3) := by decide +kernel
theorem dX5_parts_11 : decode cX5_parts 11 = .ok (.aload_n 3, 1) := by decide +kernel
theorem dX5_parts_12 : decode cX5_parts 12 = .ok (.getfield 106, 3) := by decide +kernel
theorem dX5_parts_15 : decode cX5_parts 15 = .ok (.iload_n 2, 1) := by decide +kernel
theorem dX5_parts_16 : decode cX5_parts 16 = .ok (.iaload, 1) := by decide +kernel
theorem dX5_parts_17 : decode cX5_parts 17 = .ok (.ireturn, 1) := by decide +kernel
set_option maxRecDepth 20000 in
theorem ggX5_canBePlayed_X5_copyNumbered : GoodIn wsX5_canBePlayed wsX5_copyNumbered := goodIn_ca (goodIn_r _ [5, 6, 7, 8, 17, 18, 19, 20, 21, 22, 23, 24, 25] (by decide +kernel) (by decide +kernel)) (goodIn_sub (fun _ h => List.mem_cons_of_mem _ (List.mem_append_right _ h)) (by decide +kernel))
set_option maxRecDepth 20000 in
theorem gX5_canBePlayed_X5_copyNumbered : GoodIn wsX5_canBePlayed (wsV RX5 102 RX5 yX5_copyNumbered wsX5_copyNumbered) := goodIn_app (goodIn_of _ (by decide +kernel)) ggX5_canBePlayed_X5_copyNumbered
set_option maxRecDepth 20000 in
theorem ggX5_canBePlayed_X0_isPlayable : GoodIn wsX5_canBePlayed wsX0_isPlayable := goodIn_r _ [13, 14, 15, 16, 26, 27, 28, 29, 30, 31, 32, 33, 34, 35] (by decide +kernel) (by decide +kernel)
set_option maxRecDepth 20000 in
theorem gX5_canBePlayed_X0_isPlayable : GoodIn wsX5_canBePlayed (wsV RX5 196 RX0 yX0_isPlayable wsX0_isPlayable) := goodIn_app (goodIn_of _ (by decide +kernel)) ggX5_canBePlayed_X0_isPlayable
theorem dX5_canBePlayed_0 : decode cX5_canBePlayed 0 = .ok (.aload_n 0, 1) := by decide +kernel
theorem dX5_canBePlayed_1 : decode cX5_canBePlayed 1 = .ok (.iload_n 1, 1) := by decide +kernel
theorem dX5_canBePlayed_2 : decode cX5_canBePlayed 2 = .ok (.invokevirtual 102, 3) := by decide +kernel
theorem dX5_canBePlayed_5 : decode cX5_canBePlayed 5 = .ok (.invokevirtual 196, 3) := by decide +kernel
theorem dX5_canBePlayed_8 : decode cX5_canBePlayed 8 = .ok (.ireturn, 1) := by decide +kernel
set_option maxRecDepth 20000 in
theorem ggX5_whereIs_X5_copyNumbered : GoodIn wsX5_whereIs wsX5_copyNumbered := goodIn_ca (goodIn_r _ [6, 7, 8, 9, 14, 15, 16, 17, 18, 19, 20, 21, 22] (by decide +kernel) (by decide +kernel)) (goodIn_sub (fun _ h => List.mem_cons_of_mem _ (List.mem_append_right _ h)) (by decide +kernel))
set_option maxRecDepth 20000 in
theorem gX5_whereIs_X5_copyNumbered : GoodIn wsX5_whereIs (wsV RX5 102 RX5 yX5_copyNumbered wsX5_copyNumbered) := goodIn_app (goodIn_of _ (by decide +kernel)) ggX5_whereIs_X5_copyNumbered
theorem dX5_whereIs_0 : decode cX5_whereIs 0 = .ok (.aload_n 0, 1) := by decide +kernel
theorem dX5_whereIs_1 : decode cX5_whereIs 1 = .ok (.iload_n 1, 1) := by decide +kernel
theorem dX5_whereIs_2 : decode cX5_whereIs 2 = .ok (.invokevirtual 102, 3) := by decide +kernel
theorem dX5_whereIs_5 : decode cX5_whereIs 5 = .ok (.getfield 109, 3) := by decide +kernel
theorem dX5_whereIs_8 : decode cX5_whereIs 8 = .ok (.ireturn, 1) := by decide +kernel
set_option maxRecDepth 20000 in
theorem ggX5_at_X5_checkNumber : GoodIn wsX5_at wsX5_checkNumber := goodIn_ca (goodIn_r _ [6, 7, 8] (by decide +kernel) (by decide +kernel)) (goodIn_sub (fun _ h => List.mem_cons_of_mem _ (List.mem_append_right _ h)) (by decide +kernel))
set_option maxRecDepth 20000 in
theorem gX5_at_X5_checkNumber : GoodIn wsX5_at (va_wsS RX5 57 yX5_checkNumber wsX5_checkNumber) := goodIn_app (goodIn_of _ (by decide +kernel)) ggX5_at_X5_checkNumber
theorem dX5_at_0 : decode cX5_at 0 = .ok (.iload_n 1, 1) := by decide +kernel
theorem dX5_at_1 : decode cX5_at 1 = .ok (.bipush 6, 2) := by decide +kernel
theorem dX5_at_3 : decode cX5_at 3 = .ok (.invokestatic 57, 3) := by decide +kernel
theorem dX5_at_6 : decode cX5_at 6 = .ok (.aload_n 0, 1) := by decide +kernel
theorem dX5_at_7 : decode cX5_at 7 = .ok (.getfield 17, 3) := by decide +kernel
theorem dX5_at_10 : decode cX5_at 10 = .ok (.iload_n 1, 1) := by decide +kernel
theorem dX5_at_11 : decode cX5_at 11 = .ok (.aaload, 1) := by decide +kernel
theorem dX5_at_12 : decode cX5_at 12 = .ok (.getfield 80, 3) := by decide +kernel
theorem dX5_at_15 : decode cX5_at 15 = .ok (.ireturn, 1) := by decide +kernel
set_option maxRecDepth 20000 in
theorem ggX5_copyOf_X5_groupNumbered : GoodIn wsX5_copyOf wsX5_groupNumbered := goodIn_ca (goodIn_r _ [7, 8, 9, 10, 19, 20, 21, 22, 23, 24, 25, 26, 27] (by decide +kernel) (by decide +kernel)) (goodIn_sub (fun _ h => List.mem_cons_of_mem _ (List.mem_append_right _ h)) (by decide +kernel))
set_option maxRecDepth 20000 in
theorem gX5_copyOf_X5_groupNumbered : GoodIn wsX5_copyOf (wsV RX5 155 RX5 yX5_groupNumbered wsX5_groupNumbered) := goodIn_app (goodIn_of _ (by decide +kernel)) ggX5_copyOf_X5_groupNumbered
theorem dX5_copyOf_0 : decode cX5_copyOf 0 = .ok (.aload_n 0, 1) := by decide +kernel
theorem dX5_copyOf_1 : decode cX5_copyOf 1 = .ok (.iload_n 1, 1) := by decide +kernel
theorem dX5_copyOf_2 : decode cX5_copyOf 2 = .ok (.invokevirtual 155, 3) := by decide +kernel
theorem dX5_copyOf_5 : decode cX5_copyOf 5 = .ok (.getfield 162, 3) := by decide +kernel
theorem dX5_copyOf_8 : decode cX5_copyOf 8 = .ok (.getfield 200, 3) := by decide +kernel
theorem dX5_copyOf_11 : decode cX5_copyOf 11 = .ok (.ireturn, 1) := by decide +kernel
set_option maxRecDepth 20000 in
theorem ggX5_teaching_X5_checkNumber : GoodIn wsX5_teaching wsX5_checkNumber := goodIn_ca (goodIn_r _ [11, 12, 13] (by decide +kernel) (by decide +kernel)) (goodIn_sub (fun _ h => List.mem_cons_of_mem _ (List.mem_append_right _ h)) (by decide +kernel))
set_option maxRecDepth 20000 in
theorem gX5_teaching_X5_checkNumber : GoodIn wsX5_teaching (va_wsS RX5 57 yX5_checkNumber wsX5_checkNumber) := goodIn_app (goodIn_of _ (by decide +kernel)) ggX5_teaching_X5_checkNumber
theorem dX5_teaching_0 : decode cX5_teaching 0 = .ok (.iload_n 1, 1) := by decide +kernel
theorem dX5_teaching_1 : decode cX5_teaching 1 = .ok (.iconst 3, 1) := by decide +kernel
theorem dX5_teaching_2 : decode cX5_teaching 2 = .ok (.invokestatic 57, 3) := by decide +kernel
theorem dX5_teaching_5 : decode cX5_teaching 5 = .ok (.iconst 0, 1) := by decide +kernel
theorem dX5_teaching_6 : decode cX5_teaching 6 = .ok (.aload_n 0, 1) := by decide +kernel
theorem dX5_teaching_7 : decode cX5_teaching 7 = .ok (.getfield 23, 3) := by decide +kernel
theorem dX5_teaching_10 : decode cX5_teaching 10 = .ok (.iload_n 1, 1) := by decide +kernel
theorem dX5_teaching_11 : decode cX5_teaching 11 = .ok (.aaload, 1) := by decide +kernel
theorem dX5_teaching_12 : decode cX5_teaching 12 = .ok (.getfield 149, 3) := by decide +kernel
theorem dX5_teaching_15 : decode cX5_teaching 15 = .ok (.aload_n 0, 1) := by decide +kernel
theorem dX5_teaching_16 : decode cX5_teaching 16 = .ok (.getfield 49, 3) := by decide +kernel
theorem dX5_teaching_19 : decode cX5_teaching 19 = .ok (.isub, 1) := by decide +kernel
theorem dX5_teaching_20 : decode cX5_teaching 20 = .ok (.invokestatic 201, 3) := by decide +kernel
theorem dX5_teaching_23 : decode cX5_teaching 23 = .ok (.ireturn, 1) := by decide +kernel
set_option maxRecDepth 20000 in
theorem ggX5_plays_X5_checkNumber : GoodIn wsX5_plays wsX5_checkNumber := goodIn_ca (goodIn_r _ [6, 7, 8] (by decide +kernel) (by decide +kernel)) (goodIn_sub (fun _ h => List.mem_cons_of_mem _ (List.mem_append_right _ h)) (by decide +kernel))
set_option maxRecDepth 20000 in
theorem gX5_plays_X5_checkNumber : GoodIn wsX5_plays (va_wsS RX5 57 yX5_checkNumber wsX5_checkNumber) := goodIn_app (goodIn_of _ (by decide +kernel)) ggX5_plays_X5_checkNumber
theorem dX5_plays_0 : decode cX5_plays 0 = .ok (.iload_n 1, 1) := by decide +kernel
theorem dX5_plays_1 : decode cX5_plays 1 = .ok (.iconst 5, 1) := by decide +kernel
theorem dX5_plays_2 : decode cX5_plays 2 = .ok (.invokestatic 57, 3) := by decide +kernel
theorem dX5_plays_5 : decode cX5_plays 5 = .ok (.aload_n 0, 1) := by decide +kernel
theorem dX5_plays_6 : decode cX5_plays 6 = .ok (.getfield 11, 3) := by decide +kernel
theorem dX5_plays_9 : decode cX5_plays 9 = .ok (.iload_n 1, 1) := by decide +kernel
theorem dX5_plays_10 : decode cX5_plays 10 = .ok (.aaload, 1) := by decide +kernel
theorem dX5_plays_11 : decode cX5_plays 11 = .ok (.getfield 175, 3) := by decide +kernel
theorem dX5_plays_14 : decode cX5_plays 14 = .ok (.ireturn, 1) := by decide +kernel
set_option maxRecDepth 20000 in
theorem ggX5_propose_X5_checkRange : GoodIn wsX5_propose wsX5_checkRange := goodIn_ca (goodIn_r _ [6, 7, 8] (by decide +kernel) (by decide +kernel)) (goodIn_sub (fun _ h => List.mem_cons_of_mem _ (List.mem_append_right _ h)) (by decide +kernel))
set_option maxRecDepth 20000 in
theorem gX5_propose_X5_checkRange : GoodIn wsX5_propose (va_wsS RX5 60 yX5_checkRange wsX5_checkRange) := goodIn_app (goodIn_of _ (by decide +kernel)) ggX5_propose_X5_checkRange
set_option maxRecDepth 20000 in
theorem ggX5_propose_X5_canSeatKnowing : GoodIn wsX5_propose wsX5_canSeatKnowing := goodIn_r _ [12, 13, 14, 15, 16, 17, 18, 19, 20, 21, 22, 23, 5, 24, 25, 26, 27, 28, 29, 30, 31, 32, 33, 34, 35, 36, 37, 38, 39, 40, 41, 42, 43, 44, 45, 46, 47, 48, 49, 50, 51, 52, 53, 54, 55, 56, 57, 58, 59, 60, 61, 62, 63, 64] (by decide +kernel) (by decide +kernel)
set_option maxRecDepth 20000 in
theorem gX5_propose_X5_canSeatKnowing : GoodIn wsX5_propose (wsV RX5 207 RX5 yX5_canSeatKnowing wsX5_canSeatKnowing) := goodIn_app (goodIn_of _ (by decide +kernel)) ggX5_propose_X5_canSeatKnowing
theorem dX5_propose_0 : decode cX5_propose 0 = .ok (.iload_n 1, 1) := by decide +kernel
theorem dX5_propose_1 : decode cX5_propose 1 = .ok (.iconst 1, 1) := by decide +kernel
theorem dX5_propose_2 : decode cX5_propose 2 = .ok (.bipush 8, 2) := by decide +kernel
theorem dX5_propose_4 : decode cX5_propose 4 = .ok (.invokestatic 60, 3) := by decide +kernel
theorem dX5_propose_7 : decode cX5_propose 7 = .ok (.iconst (-1), 1) := by decide +kernel
theorem dX5_propose_8 : decode cX5_propose 8 = .ok (.istore_n 2, 1) := by decide +kernel
theorem dX5_propose_9 : decode cX5_propose 9 = .ok (.iconst (-1), 1) := by decide +kernel
theorem dX5_propose_10 : decode cX5_propose 10 = .ok (.istore_n 3, 1) := by decide +kernel
theorem dX5_propose_11 : decode cX5_propose 11 = .ok (.iconst 0, 1) := by decide +kernel
theorem dX5_propose_12 : decode cX5_propose 12 = .ok (.istore 4, 2) := by decide +kernel
theorem dX5_propose_14 : decode cX5_propose 14 = .ok (.iload 4, 2) := by decide +kernel
theorem dX5_propose_16 : decode cX5_propose 16 = .ok (.iconst 5, 1) := by decide +kernel
theorem dX5_propose_17 : decode cX5_propose 17 = .ok (.if_icmp .ge 52, 3) := by decide +kernel
theorem dX5_propose_20 : decode cX5_propose 20 = .ok (.aload_n 0, 1) := by decide +kernel
theorem dX5_propose_21 : decode cX5_propose 21 = .ok (.getfield 11, 3) := by decide +kernel
theorem dX5_propose_24 : decode cX5_propose 24 = .ok (.iload 4, 2) := by decide +kernel
theorem dX5_propose_26 : decode cX5_propose 26 = .ok (.aaload, 1) := by decide +kernel
theorem dX5_propose_27 : decode cX5_propose 27 = .ok (.getfield 175, 3) := by decide +kernel
theorem dX5_propose_30 : decode cX5_propose 30 = .ok (.iload_n 3, 1) := by decide +kernel
theorem dX5_propose_31 : decode cX5_propose 31 = .ok (.if_icmp .le 32, 3) := by decide +kernel
theorem dX5_propose_34 : decode cX5_propose 34 = .ok (.aload_n 0, 1) := by decide +kernel
theorem dX5_propose_35 : decode cX5_propose 35 = .ok (.iload_n 1, 1) := by decide +kernel
theorem dX5_propose_36 : decode cX5_propose 36 = .ok (.aload_n 0, 1) := by decide +kernel
theorem dX5_propose_37 : decode cX5_propose 37 = .ok (.getfield 11, 3) := by decide +kernel
theorem dX5_propose_40 : decode cX5_propose 40 = .ok (.iload 4, 2) := by decide +kernel
theorem dX5_propose_42 : decode cX5_propose 42 = .ok (.aaload, 1) := by decide +kernel
theorem dX5_propose_43 : decode cX5_propose 43 = .ok (.invokevirtual 207, 3) := by decide +kernel
theorem dX5_propose_46 : decode cX5_propose 46 = .ok (.ifCond .eq 17, 3) := by decide +kernel
theorem dX5_propose_49 : decode cX5_propose 49 = .ok (.iload 4, 2) := by decide +kernel
theorem dX5_propose_51 : decode cX5_propose 51 = .ok (.istore_n 2, 1) := by decide +kernel
theorem dX5_propose_52 : decode cX5_propose 52 = .ok (.aload_n 0, 1) := by decide +kernel
theorem dX5_propose_53 : decode cX5_propose 53 = .ok (.getfield 11, 3) := by decide +kernel
theorem dX5_propose_56 : decode cX5_propose 56 = .ok (.iload 4, 2) := by decide +kernel
theorem dX5_propose_58 : decode cX5_propose 58 = .ok (.aaload, 1) := by decide +kernel
theorem dX5_propose_59 : decode cX5_propose 59 = .ok (.getfield 175, 3) := by decide +kernel
theorem dX5_propose_62 : decode cX5_propose 62 = .ok (.istore_n 3, 1) := by decide +kernel
theorem dX5_propose_63 : decode cX5_propose 63 = .ok (.iinc 4 1, 3) := by decide +kernel
theorem dX5_propose_66 : decode cX5_propose 66 = .ok (.goto (-52), 3) := by decide +kernel
theorem dX5_propose_69 : decode cX5_propose 69 = .ok (.iload_n 2, 1) := by decide +kernel
theorem dX5_propose_70 : decode cX5_propose 70 = .ok (.ireturn, 1) := by decide +kernel
set_option maxRecDepth 20000 in
theorem ggX5_canSeatKnowing_X1_isFor : GoodIn wsX5_canSeatKnowing wsX1_isFor := goodIn_r _ [6, 7, 8, 41, 42, 43, 44, 45, 46] (by decide +kernel) (by decide +kernel)
set_option maxRecDepth 20000 in
theorem gX5_canSeatKnowing_X1_isFor : GoodIn wsX5_canSeatKnowing (wsV RX5 129 RX1 yX1_isFor wsX1_isFor) := goodIn_app (goodIn_of _ (by decide +kernel)) ggX5_canSeatKnowing_X1_isFor
set_option maxRecDepth 20000 in
theorem ggX5_canSeatKnowing_X5_freeTableFor : GoodIn wsX5_canSeatKnowing wsX5_freeTableFor := goodIn_r _ [13, 14, 15, 16, 32, 33, 34, 35, 36, 37, 38, 39, 40, 47, 48, 49] (by decide +kernel) (by decide +kernel)
set_option maxRecDepth 20000 in
theorem gX5_canSeatKnowing_X5_freeTableFor : GoodIn wsX5_canSeatKnowing (wsV RX5 135 RX5 yX5_freeTableFor wsX5_freeTableFor) := goodIn_app (goodIn_of _ (by decide +kernel)) ggX5_canSeatKnowing_X5_freeTableFor
set_option maxRecDepth 20000 in
theorem ggX5_canSeatKnowing_X5_playableCopyOf : GoodIn wsX5_canSeatKnowing wsX5_playableCopyOf := goodIn_r _ [20, 21, 22, 23, 24, 25, 26, 27, 28, 29, 30, 31, 32, 33, 34, 35, 36, 37, 38, 39, 40, 50, 51, 52, 53, 41, 42, 43, 44, 45, 46] (by decide +kernel) (by decide +kernel)
set_option maxRecDepth 20000 in
theorem gX5_canSeatKnowing_X5_playableCopyOf : GoodIn wsX5_canSeatKnowing (wsV RX5 139 RX5 yX5_playableCopyOf wsX5_playableCopyOf) := goodIn_app (goodIn_of _ (by decide +kernel)) ggX5_canSeatKnowing_X5_playableCopyOf
theorem dX5_canSeatKnowing_0 : decode cX5_canSeatKnowing 0 = .ok (.aload_n 0, 1) := by decide +kernel
theorem dX5_canSeatKnowing_1 : decode cX5_canSeatKnowing 1 = .ok (.getfield 46, 3) := by decide +kernel
theorem dX5_canSeatKnowing_4 : decode cX5_canSeatKnowing 4 = .ok (.bipush 60, 2) := by decide +kernel
theorem dX5_canSeatKnowing_6 : decode cX5_canSeatKnowing 6 = .ok (.if_icmp .ge 31, 3) := by decide +kernel
theorem dX5_canSeatKnowing_9 : decode cX5_canSeatKnowing 9 = .ok (.aload_n 2, 1) := by decide +kernel
theorem dX5_canSeatKnowing_10 : decode cX5_canSeatKnowing 10 = .ok (.iload_n 1, 1) := by decide +kernel
theorem dX5_canSeatKnowing_11 : decode cX5_canSeatKnowing 11 = .ok (.invokevirtual 129, 3) := by decide +kernel
theorem dX5_canSeatKnowing_14 : decode cX5_canSeatKnowing 14 = .ok (.ifCond .eq 23, 3) := by decide +kernel
theorem dX5_canSeatKnowing_17 : decode cX5_canSeatKnowing 17 = .ok (.aload_n 0, 1) := by decide +kernel
theorem dX5_canSeatKnowing_18 : decode cX5_canSeatKnowing 18 = .ok (.iload_n 1, 1) := by decide +kernel
theorem dX5_canSeatKnowing_19 : decode cX5_canSeatKnowing 19 = .ok (.invokevirtual 135, 3) := by decide +kernel
theorem dX5_canSeatKnowing_22 : decode cX5_canSeatKnowing 22 = .ok (.ifnull 15, 3) := by decide +kernel
theorem dX5_canSeatKnowing_25 : decode cX5_canSeatKnowing 25 = .ok (.aload_n 0, 1) := by decide +kernel
theorem dX5_canSeatKnowing_26 : decode cX5_canSeatKnowing 26 = .ok (.aload_n 2, 1) := by decide +kernel
theorem dX5_canSeatKnowing_27 : decode cX5_canSeatKnowing 27 = .ok (.invokevirtual 139, 3) := by decide +kernel
theorem dX5_canSeatKnowing_30 : decode cX5_canSeatKnowing 30 = .ok (.ifnull 7, 3) := by decide +kernel
theorem dX5_canSeatKnowing_33 : decode cX5_canSeatKnowing 33 = .ok (.iconst 1, 1) := by decide +kernel
theorem dX5_canSeatKnowing_34 : decode cX5_canSeatKnowing 34 = .ok (.goto 4, 3) := by decide +kernel
theorem dX5_canSeatKnowing_37 : decode cX5_canSeatKnowing 37 = .ok (.iconst 0, 1) := by decide +kernel
theorem dX5_canSeatKnowing_38 : decode cX5_canSeatKnowing 38 = .ok (.ireturn, 1) := by decide +kernel
theorem dX5_freeTableFor_0 : decode cX5_freeTableFor 0 = .ok (.aconst_null, 1) := by decide +kernel
theorem dX5_freeTableFor_1 : decode cX5_freeTableFor 1 = .ok (.astore_n 2, 1) := by decide +kernel
theorem dX5_freeTableFor_2 : decode cX5_freeTableFor 2 = .ok (.aload_n 0, 1) := by decide +kernel
theorem dX5_freeTableFor_3 : decode cX5_freeTableFor 3 = .ok (.getfield 17, 3) := by decide +kernel
theorem dX5_freeTableFor_6 : decode cX5_freeTableFor 6 = .ok (.astore_n 3, 1) := by decide +kernel
theorem dX5_freeTableFor_7 : decode cX5_freeTableFor 7 = .ok (.aload_n 3, 1) := by decide +kernel
theorem dX5_freeTableFor_8 : decode cX5_freeTableFor 8 = .ok (.arraylength, 1) := by decide +kernel
theorem dX5_freeTableFor_9 : decode cX5_freeTableFor 9 = .ok (.istore 4, 2) := by decide +kernel
theorem dX5_freeTableFor_11 : decode cX5_freeTableFor 11 = .ok (.iconst 0, 1) := by decide +kernel
theorem dX5_freeTableFor_12 : decode cX5_freeTableFor 12 = .ok (.istore 5, 2) := by decide +kernel
theorem dX5_freeTableFor_14 : decode cX5_freeTableFor 14 = .ok (.iload 5, 2) := by decide +kernel
theorem dX5_freeTableFor_16 : decode cX5_freeTableFor 16 = .ok (.iload 4, 2) := by decide +kernel
theorem dX5_freeTableFor_18 : decode cX5_freeTableFor 18 = .ok (.if_icmp .ge 64, 3) := by decide +kernel
theorem dX5_freeTableFor_21 : decode cX5_freeTableFor 21 = .ok (.aload_n 3, 1) := by decide +kernel
theorem dX5_freeTableFor_22 : decode cX5_freeTableFor 22 = .ok (.iload 5, 2) := by decide +kernel
theorem dX5_freeTableFor_24 : decode cX5_freeTableFor 24 = .ok (.aaload, 1) := by decide +kernel
theorem dX5_freeTableFor_25 : decode cX5_freeTableFor 25 = .ok (.astore 6, 2) := by decide +kernel
theorem dX5_freeTableFor_27 : decode cX5_freeTableFor 27 = .ok (.aload 6, 2) := by decide +kernel
theorem dX5_freeTableFor_29 : decode cX5_freeTableFor 29 = .ok (.getfield 80, 3) := by decide +kernel
theorem dX5_freeTableFor_32 : decode cX5_freeTableFor 32 = .ok (.iconst (-1), 1) := by decide +kernel
theorem dX5_freeTableFor_33 : decode cX5_freeTableFor 33 = .ok (.if_icmp .ne 16, 3) := by decide +kernel
theorem dX5_freeTableFor_36 : decode cX5_freeTableFor 36 = .ok (.aload 6, 2) := by decide +kernel
theorem dX5_freeTableFor_38 : decode cX5_freeTableFor 38 = .ok (.getfield 90, 3) := by decide +kernel
theorem dX5_freeTableFor_41 : decode cX5_freeTableFor 41 = .ok (.iload_n 1, 1) := by decide +kernel
theorem dX5_freeTableFor_42 : decode cX5_freeTableFor 42 = .ok (.if_icmp .lt 7, 3) := by decide +kernel
theorem dX5_freeTableFor_45 : decode cX5_freeTableFor 45 = .ok (.iconst 1, 1) := by decide +kernel
theorem dX5_freeTableFor_46 : decode cX5_freeTableFor 46 = .ok (.goto 4, 3) := by decide +kernel
theorem dX5_freeTableFor_49 : decode cX5_freeTableFor 49 = .ok (.iconst 0, 1) := by decide +kernel
theorem dX5_freeTableFor_50 : decode cX5_freeTableFor 50 = .ok (.istore 7, 2) := by decide +kernel
theorem dX5_freeTableFor_52 : decode cX5_freeTableFor 52 = .ok (.iload 7, 2) := by decide +kernel
theorem dX5_freeTableFor_54 : decode cX5_freeTableFor 54 = .ok (.ifCond .eq 22, 3) := by decide +kernel
theorem dX5_freeTableFor_57 : decode cX5_freeTableFor 57 = .ok (.aload_n 2, 1) := by decide +kernel
theorem dX5_freeTableFor_58 : decode cX5_freeTableFor 58 = .ok (.ifnull 15, 3) := by decide +kernel
theorem dX5_freeTableFor_61 : decode cX5_freeTableFor 61 = .ok (.aload 6, 2) := by decide +kernel
theorem dX5_freeTableFor_63 : decode cX5_freeTableFor 63 = .ok (.getfield 90, 3) := by decide +kernel
theorem dX5_freeTableFor_66 : decode cX5_freeTableFor 66 = .ok (.aload_n 2, 1) := by decide +kernel
theorem dX5_freeTableFor_67 : decode cX5_freeTableFor 67 = .ok (.getfield 90, 3) := by decide +kernel
theorem dX5_freeTableFor_70 : decode cX5_freeTableFor 70 = .ok (.if_icmp .ge 6, 3) := by decide +kernel
theorem dX5_freeTableFor_73 : decode cX5_freeTableFor 73 = .ok (.aload 6, 2) := by decide +kernel
theorem dX5_freeTableFor_75 : decode cX5_freeTableFor 75 = .ok (.astore_n 2, 1) := by decide +kernel
theorem dX5_freeTableFor_76 : decode cX5_freeTableFor 76 = .ok (.iinc 5 1, 3) := by decide +kernel
theorem dX5_freeTableFor_79 : decode cX5_freeTableFor 79 = .ok (.goto (-65), 3) := by decide +kernel
theorem dX5_freeTableFor_82 : decode cX5_freeTableFor 82 = .ok (.aload_n 2, 1) := by decide +kernel
theorem dX5_freeTableFor_83 : decode cX5_freeTableFor 83 = .ok (.areturn, 1) := by decide +kernel
set_option maxRecDepth 20000 in
theorem ggX5_playableCopyOf_X0_isPlayable : GoodIn wsX5_playableCopyOf wsX0_isPlayable := goodIn_r _ [8, 9, 10, 11, 21, 22, 23, 24, 25, 26, 27, 28, 29, 30] (by decide +kernel) (by decide +kernel)
set_option maxRecDepth 20000 in
theorem gX5_playableCopyOf_X0_isPlayable : GoodIn wsX5_playableCopyOf (wsV RX5 196 RX0 yX0_isPlayable wsX0_isPlayable) := goodIn_app (goodIn_of _ (by decide +kernel)) ggX5_playableCopyOf_X0_isPlayable
theorem dX5_playableCopyOf_0 : decode cX5_playableCopyOf 0 = .ok (.aload_n 0, 1) := by decide +kernel
theorem dX5_playableCopyOf_1 : decode cX5_playableCopyOf 1 = .ok (.getfield 29, 3) := by decide +kernel
theorem dX5_playableCopyOf_4 : decode cX5_playableCopyOf 4 = .ok (.astore_n 2, 1) := by decide +kernel
theorem dX5_playableCopyOf_5 : decode cX5_playableCopyOf 5 = .ok (.aload_n 2, 1) := by decide +kernel
theorem dX5_playableCopyOf_6 : decode cX5_playableCopyOf 6 = .ok (.arraylength, 1) := by decide +kernel
theorem dX5_playableCopyOf_7 : decode cX5_playableCopyOf 7 = .ok (.istore_n 3, 1) := by decide +kernel
theorem dX5_playableCopyOf_8 : decode cX5_playableCopyOf 8 = .ok (.iconst 0, 1) := by decide +kernel
theorem dX5_playableCopyOf_9 : decode cX5_playableCopyOf 9 = .ok (.istore 4, 2) := by decide +kernel
theorem dX5_playableCopyOf_11 : decode cX5_playableCopyOf 11 = .ok (.iload 4, 2) := by decide +kernel
theorem dX5_playableCopyOf_13 : decode cX5_playableCopyOf 13 = .ok (.iload_n 3, 1) := by decide +kernel
theorem dX5_playableCopyOf_14 : decode cX5_playableCopyOf 14 = .ok (.if_icmp .ge 48, 3) := by decide +kernel
theorem dX5_playableCopyOf_17 : decode cX5_playableCopyOf 17 = .ok (.aload_n 2, 1) := by decide +kernel
theorem dX5_playableCopyOf_18 : decode cX5_playableCopyOf 18 = .ok (.iload 4, 2) := by decide +kernel
theorem dX5_playableCopyOf_20 : decode cX5_playableCopyOf 20 = .ok (.aaload, 1) := by decide +kernel
theorem dX5_playableCopyOf_21 : decode cX5_playableCopyOf 21 = .ok (.astore 5, 2) := by decide +kernel
theorem dX5_playableCopyOf_23 : decode cX5_playableCopyOf 23 = .ok (.aload 5, 2) := by decide +kernel
theorem dX5_playableCopyOf_25 : decode cX5_playableCopyOf 25 = .ok (.ifnull 31, 3) := by decide +kernel
theorem dX5_playableCopyOf_28 : decode cX5_playableCopyOf 28 = .ok (.aload 5, 2) := by decide +kernel
theorem dX5_playableCopyOf_30 : decode cX5_playableCopyOf 30 = .ok (.getfield 114, 3) := by decide +kernel
theorem dX5_playableCopyOf_33 : decode cX5_playableCopyOf 33 = .ok (.aload_n 1, 1) := by decide +kernel
theorem dX5_playableCopyOf_34 : decode cX5_playableCopyOf 34 = .ok (.if_acmp .ne 22, 3) := by decide +kernel
theorem dX5_playableCopyOf_37 : decode cX5_playableCopyOf 37 = .ok (.aload 5, 2) := by decide +kernel
theorem dX5_playableCopyOf_39 : decode cX5_playableCopyOf 39 = .ok (.getfield 109, 3) := by decide +kernel
theorem dX5_playableCopyOf_42 : decode cX5_playableCopyOf 42 = .ok (.ifCond .ne 14, 3) := by decide +kernel
theorem dX5_playableCopyOf_45 : decode cX5_playableCopyOf 45 = .ok (.aload 5, 2) := by decide +kernel
theorem dX5_playableCopyOf_47 : decode cX5_playableCopyOf 47 = .ok (.invokevirtual 196, 3) := by decide +kernel
theorem dX5_playableCopyOf_50 : decode cX5_playableCopyOf 50 = .ok (.ifCond .eq 6, 3) := by decide +kernel
theorem dX5_playableCopyOf_53 : decode cX5_playableCopyOf 53 = .ok (.aload 5, 2) := by decide +kernel
theorem dX5_playableCopyOf_55 : decode cX5_playableCopyOf 55 = .ok (.areturn, 1) := by decide +kernel
theorem dX5_playableCopyOf_56 : decode cX5_playableCopyOf 56 = .ok (.iinc 4 1, 3) := by decide +kernel
theorem dX5_playableCopyOf_59 : decode cX5_playableCopyOf 59 = .ok (.goto (-48), 3) := by decide +kernel
theorem dX5_playableCopyOf_62 : decode cX5_playableCopyOf 62 = .ok (.aconst_null, 1) := by decide +kernel
theorem dX5_playableCopyOf_63 : decode cX5_playableCopyOf 63 = .ok (.areturn, 1) := by decide +kernel
theorem dX5_freeTeacherOf_0 : decode cX5_freeTeacherOf 0 = .ok (.aload_n 0, 1) := by decide +kernel
theorem dX5_freeTeacherOf_1 : decode cX5_freeTeacherOf 1 = .ok (.getfield 23, 3) := by decide +kernel
theorem dX5_freeTeacherOf_4 : decode cX5_freeTeacherOf 4 = .ok (.astore_n 2, 1) := by decide +kernel
theorem dX5_freeTeacherOf_5 : decode cX5_freeTeacherOf 5 = .ok (.aload_n 2, 1) := by decide +kernel
theorem dX5_freeTeacherOf_6 : decode cX5_freeTeacherOf 6 = .ok (.arraylength, 1) := by decide +kernel
theorem dX5_freeTeacherOf_7 : decode cX5_freeTeacherOf 7 = .ok (.istore_n 3, 1) := by decide +kernel
theorem dX5_freeTeacherOf_8 : decode cX5_freeTeacherOf 8 = .ok (.iconst 0, 1) := by decide +kernel
theorem dX5_freeTeacherOf_9 : decode cX5_freeTeacherOf 9 = .ok (.istore 4, 2) := by decide +kernel
theorem dX5_freeTeacherOf_11 : decode cX5_freeTeacherOf 11 = .ok (.iload 4, 2) := by decide +kernel
theorem dX5_freeTeacherOf_13 : decode cX5_freeTeacherOf 13 = .ok (.iload_n 3, 1) := by decide +kernel
theorem dX5_freeTeacherOf_14 : decode cX5_freeTeacherOf 14 = .ok (.if_icmp .ge 40, 3) := by decide +kernel
theorem dX5_freeTeacherOf_17 : decode cX5_freeTeacherOf 17 = .ok (.aload_n 2, 1) := by decide +kernel
theorem dX5_freeTeacherOf_18 : decode cX5_freeTeacherOf 18 = .ok (.iload 4, 2) := by decide +kernel
theorem dX5_freeTeacherOf_20 : decode cX5_freeTeacherOf 20 = .ok (.aaload, 1) := by decide +kernel
theorem dX5_freeTeacherOf_21 : decode cX5_freeTeacherOf 21 = .ok (.astore 5, 2) := by decide +kernel
theorem dX5_freeTeacherOf_23 : decode cX5_freeTeacherOf 23 = .ok (.aload 5, 2) := by decide +kernel
theorem dX5_freeTeacherOf_25 : decode cX5_freeTeacherOf 25 = .ok (.getfield 93, 3) := by decide +kernel
theorem dX5_freeTeacherOf_28 : decode cX5_freeTeacherOf 28 = .ok (.iload_n 1, 1) := by decide +kernel
theorem dX5_freeTeacherOf_29 : decode cX5_freeTeacherOf 29 = .ok (.baload, 1) := by decide +kernel
theorem dX5_freeTeacherOf_30 : decode cX5_freeTeacherOf 30 = .ok (.ifCond .eq 18, 3) := by decide +kernel
theorem dX5_freeTeacherOf_33 : decode cX5_freeTeacherOf 33 = .ok (.aload 5, 2) := by decide +kernel
theorem dX5_freeTeacherOf_35 : decode cX5_freeTeacherOf 35 = .ok (.getfield 149, 3) := by decide +kernel
theorem dX5_freeTeacherOf_38 : decode cX5_freeTeacherOf 38 = .ok (.aload_n 0, 1) := by decide +kernel
theorem dX5_freeTeacherOf_39 : decode cX5_freeTeacherOf 39 = .ok (.getfield 49, 3) := by decide +kernel
theorem dX5_freeTeacherOf_42 : decode cX5_freeTeacherOf 42 = .ok (.if_icmp .gt 6, 3) := by decide +kernel
theorem dX5_freeTeacherOf_45 : decode cX5_freeTeacherOf 45 = .ok (.aload 5, 2) := by decide +kernel
theorem dX5_freeTeacherOf_47 : decode cX5_freeTeacherOf 47 = .ok (.areturn, 1) := by decide +kernel
theorem dX5_freeTeacherOf_48 : decode cX5_freeTeacherOf 48 = .ok (.iinc 4 1, 3) := by decide +kernel
theorem dX5_freeTeacherOf_51 : decode cX5_freeTeacherOf 51 = .ok (.goto (-40), 3) := by decide +kernel
theorem dX5_freeTeacherOf_54 : decode cX5_freeTeacherOf 54 = .ok (.aconst_null, 1) := by decide +kernel
theorem dX5_freeTeacherOf_55 : decode cX5_freeTeacherOf 55 = .ok (.areturn, 1) := by decide +kernel
theorem dX5_copyNumbered_0 : decode cX5_copyNumbered 0 = .ok (.iload_n 1, 1) := by decide +kernel
theorem dX5_copyNumbered_1 : decode cX5_copyNumbered 1 = .ok (.ifCond .lt 18, 3) := by decide +kernel
theorem dX5_copyNumbered_4 : decode cX5_copyNumbered 4 = .ok (.iload_n 1, 1) := by decide +kernel
theorem dX5_copyNumbered_5 : decode cX5_copyNumbered 5 = .ok (.bipush 15, 2) := by decide +kernel
theorem dX5_copyNumbered_7 : decode cX5_copyNumbered 7 = .ok (.if_icmp .ge 12, 3) := by decide +kernel
theorem dX5_copyNumbered_10 : decode cX5_copyNumbered 10 = .ok (.aload_n 0, 1) := by decide +kernel
theorem dX5_copyNumbered_11 : decode cX5_copyNumbered 11 = .ok (.getfield 29, 3) := by decide +kernel
theorem dX5_copyNumbered_14 : decode cX5_copyNumbered 14 = .ok (.iload_n 1, 1) := by decide +kernel
theorem dX5_copyNumbered_15 : decode cX5_copyNumbered 15 = .ok (.aaload, 1) := by decide +kernel
theorem dX5_copyNumbered_16 : decode cX5_copyNumbered 16 = .ok (.ifnonnull 13, 3) := by decide +kernel
theorem dX5_copyNumbered_19 : decode cX5_copyNumbered 19 = .ok (.new 211, 3) := by decide +kernel
theorem dX5_copyNumbered_22 : decode cX5_copyNumbered 22 = .ok (.dup, 1) := by decide +kernel
theorem dX5_copyNumbered_23 : decode cX5_copyNumbered 23 = .ok (.ldc 213, 2) := by decide +kernel
theorem dX5_copyNumbered_25 : decode cX5_copyNumbered 25 = .ok (.invokespecial 215, 3) := by decide +kernel
theorem dX5_copyNumbered_28 : decode cX5_copyNumbered 28 = .ok (.athrow, 1) := by decide +kernel
theorem dX5_copyNumbered_29 : decode cX5_copyNumbered 29 = .ok (.aload_n 0, 1) := by decide +kernel
theorem dX5_copyNumbered_30 : decode cX5_copyNumbered 30 = .ok (.getfield 29, 3) := by decide +kernel
theorem dX5_copyNumbered_33 : decode cX5_copyNumbered 33 = .ok (.iload_n 1, 1) := by decide +kernel
theorem dX5_copyNumbered_34 : decode cX5_copyNumbered 34 = .ok (.aaload, 1) := by decide +kernel
theorem dX5_copyNumbered_35 : decode cX5_copyNumbered 35 = .ok (.areturn, 1) := by decide +kernel
theorem dX5_groupNumbered_0 : decode cX5_groupNumbered 0 = .ok (.iload_n 1, 1) := by decide +kernel
theorem dX5_groupNumbered_1 : decode cX5_groupNumbered 1 = .ok (.ifCond .lt 18, 3) := by decide +kernel
theorem dX5_groupNumbered_4 : decode cX5_groupNumbered 4 = .ok (.iload_n 1, 1) := by decide +kernel
theorem dX5_groupNumbered_5 : decode cX5_groupNumbered 5 = .ok (.bipush 60, 2) := by decide +kernel
theorem dX5_groupNumbered_7 : decode cX5_groupNumbered 7 = .ok (.if_icmp .ge 12, 3) := by decide +kernel
theorem dX5_groupNumbered_10 : decode cX5_groupNumbered 10 = .ok (.aload_n 0, 1) := by decide +kernel
theorem dX5_groupNumbered_11 : decode cX5_groupNumbered 11 = .ok (.getfield 35, 3) := by decide +kernel
theorem dX5_groupNumbered_14 : decode cX5_groupNumbered 14 = .ok (.iload_n 1, 1) := by decide +kernel
theorem dX5_groupNumbered_15 : decode cX5_groupNumbered 15 = .ok (.aaload, 1) := by decide +kernel
theorem dX5_groupNumbered_16 : decode cX5_groupNumbered 16 = .ok (.ifnonnull 13, 3) := by decide +kernel
theorem dX5_groupNumbered_19 : decode cX5_groupNumbered 19 = .ok (.new 211, 3) := by decide +kernel
theorem dX5_groupNumbered_22 : decode cX5_groupNumbered 22 = .ok (.dup, 1) := by decide +kernel
theorem dX5_groupNumbered_23 : decode cX5_groupNumbered 23 = .ok (.ldc 216, 2) := by decide +kernel
theorem dX5_groupNumbered_25 : decode cX5_groupNumbered 25 = .ok (.invokespecial 215, 3) := by decide +kernel
theorem dX5_groupNumbered_28 : decode cX5_groupNumbered 28 = .ok (.athrow, 1) := by decide +kernel
theorem dX5_groupNumbered_29 : decode cX5_groupNumbered 29 = .ok (.aload_n 0, 1) := by decide +kernel
theorem dX5_groupNumbered_30 : decode cX5_groupNumbered 30 = .ok (.getfield 35, 3) := by decide +kernel
theorem dX5_groupNumbered_33 : decode cX5_groupNumbered 33 = .ok (.iload_n 1, 1) := by decide +kernel
theorem dX5_groupNumbered_34 : decode cX5_groupNumbered 34 = .ok (.aaload, 1) := by decide +kernel
theorem dX5_groupNumbered_35 : decode cX5_groupNumbered 35 = .ok (.areturn, 1) := by decide +kernel
theorem dX5_worthOfPart_0 : decode cX5_worthOfPart 0 = .ok (.bipush 100, 2) := by decide +kernel
theorem dX5_worthOfPart_2 : decode cX5_worthOfPart 2 = .ok (.iload_n 0, 1) := by decide +kernel
theorem dX5_worthOfPart_3 : decode cX5_worthOfPart 3 = .ok (.iconst 1, 1) := by decide +kernel
theorem dX5_worthOfPart_4 : decode cX5_worthOfPart 4 = .ok (.iadd, 1) := by decide +kernel
theorem dX5_worthOfPart_5 : decode cX5_worthOfPart 5 = .ok (.imul, 1) := by decide +kernel
theorem dX5_worthOfPart_6 : decode cX5_worthOfPart 6 = .ok (.ireturn, 1) := by decide +kernel
theorem dX5_checkNumber_0 : decode cX5_checkNumber 0 = .ok (.iload_n 0, 1) := by decide +kernel
theorem dX5_checkNumber_1 : decode cX5_checkNumber 1 = .ok (.ifCond .lt 8, 3) := by decide +kernel
theorem dX5_checkNumber_4 : decode cX5_checkNumber 4 = .ok (.iload_n 0, 1) := by decide +kernel
theorem dX5_checkNumber_5 : decode cX5_checkNumber 5 = .ok (.iload_n 1, 1) := by decide +kernel
theorem dX5_checkNumber_6 : decode cX5_checkNumber 6 = .ok (.if_icmp .lt 13, 3) := by decide +kernel
theorem dX5_checkNumber_9 : decode cX5_checkNumber 9 = .ok (.new 211, 3) := by decide +kernel
theorem dX5_checkNumber_12 : decode cX5_checkNumber 12 = .ok (.dup, 1) := by decide +kernel
theorem dX5_checkNumber_13 : decode cX5_checkNumber 13 = .ok (.ldc 218, 2) := by decide +kernel
theorem dX5_checkNumber_15 : decode cX5_checkNumber 15 = .ok (.invokespecial 215, 3) := by decide +kernel
theorem dX5_checkNumber_18 : decode cX5_checkNumber 18 = .ok (.athrow, 1) := by decide +kernel
theorem dX5_checkNumber_19 : decode cX5_checkNumber 19 = .ok (.return_, 1) := by decide +kernel
theorem dX5_checkRange_0 : decode cX5_checkRange 0 = .ok (.iload_n 0, 1) := by decide +kernel
theorem dX5_checkRange_1 : decode cX5_checkRange 1 = .ok (.iload_n 1, 1) := by decide +kernel
theorem dX5_checkRange_2 : decode cX5_checkRange 2 = .ok (.if_icmp .lt 8, 3) := by decide +kernel
theorem dX5_checkRange_5 : decode cX5_checkRange 5 = .ok (.iload_n 0, 1) := by decide +kernel
theorem dX5_checkRange_6 : decode cX5_checkRange 6 = .ok (.iload_n 2, 1) := by decide +kernel
theorem dX5_checkRange_7 : decode cX5_checkRange 7 = .ok (.if_icmp .le 13, 3) := by decide +kernel
theorem dX5_checkRange_10 : decode cX5_checkRange 10 = .ok (.new 118, 3) := by decide +kernel
theorem dX5_checkRange_13 : decode cX5_checkRange 13 = .ok (.dup, 1) := by decide +kernel
theorem dX5_checkRange_14 : decode cX5_checkRange 14 = .ok (.ldc 220, 2) := by decide +kernel
theorem dX5_checkRange_16 : decode cX5_checkRange 16 = .ok (.invokespecial 122, 3) := by decide +kernel
theorem dX5_checkRange_19 : decode cX5_checkRange 19 = .ok (.athrow, 1) := by decide +kernel
theorem dX5_checkRange_20 : decode cX5_checkRange 20 = .ok (.return_, 1) := by decide +kernel
