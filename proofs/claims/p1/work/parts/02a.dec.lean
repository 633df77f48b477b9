theorem dX1_init_0 : decode cX1_init 0 = .ok (.aload_n 0, 1) := by decide +kernel
theorem dX1_init_1 : decode cX1_init 1 = .ok (.invokespecial 3, 3) := by decide +kernel
theorem dX1_init_4 : decode cX1_init 4 = .ok (.aload_n 0, 1) := by decide +kernel
theorem dX1_init_5 : decode cX1_init 5 = .ok (.new 9, 3) := by decide +kernel
theorem dX1_init_8 : decode cX1_init 8 = .ok (.dup, 1) := by decide +kernel
theorem dX1_init_9 : decode cX1_init 9 = .ok (.invokespecial 11, 3) := by decide +kernel
theorem dX1_init_12 : decode cX1_init 12 = .ok (.putfield 12, 3) := by decide +kernel
theorem dX1_init_15 : decode cX1_init 15 = .ok (.aload_n 0, 1) := by decide +kernel
theorem dX1_init_16 : decode cX1_init 16 = .ok (.iconst 0, 1) := by decide +kernel
theorem dX1_init_17 : decode cX1_init 17 = .ok (.putfield 18, 3) := by decide +kernel
theorem dX1_init_20 : decode cX1_init 20 = .ok (.aload_n 0, 1) := by decide +kernel
theorem dX1_init_21 : decode cX1_init 21 = .ok (.iconst 0, 1) := by decide +kernel
theorem dX1_init_22 : decode cX1_init 22 = .ok (.putfield 22, 3) := by decide +kernel
theorem dX1_init_25 : decode cX1_init 25 = .ok (.aload_n 0, 1) := by decide +kernel
theorem dX1_init_26 : decode cX1_init 26 = .ok (.iconst (-1), 1) := by decide +kernel
theorem dX1_init_27 : decode cX1_init 27 = .ok (.putfield 25, 3) := by decide +kernel
theorem dX1_init_30 : decode cX1_init 30 = .ok (.aload_n 0, 1) := by decide +kernel
theorem dX1_init_31 : decode cX1_init 31 = .ok (.iconst 0, 1) := by decide +kernel
theorem dX1_init_32 : decode cX1_init 32 = .ok (.putfield 28, 3) := by decide +kernel
theorem dX1_init_35 : decode cX1_init 35 = .ok (.aload_n 0, 1) := by decide +kernel
theorem dX1_init_36 : decode cX1_init 36 = .ok (.aconst_null, 1) := by decide +kernel
theorem dX1_init_37 : decode cX1_init 37 = .ok (.putfield 31, 3) := by decide +kernel
theorem dX1_init_40 : decode cX1_init 40 = .ok (.aload_n 0, 1) := by decide +kernel
theorem dX1_init_41 : decode cX1_init 41 = .ok (.aconst_null, 1) := by decide +kernel
theorem dX1_init_42 : decode cX1_init 42 = .ok (.putfield 35, 3) := by decide +kernel
theorem dX1_init_45 : decode cX1_init 45 = .ok (.aload_n 0, 1) := by decide +kernel
theorem dX1_init_46 : decode cX1_init 46 = .ok (.iconst 0, 1) := by decide +kernel
theorem dX1_init_47 : decode cX1_init 47 = .ok (.putfield 38, 3) := by decide +kernel
theorem dX1_init_50 : decode cX1_init 50 = .ok (.aload_n 0, 1) := by decide +kernel
theorem dX1_init_51 : decode cX1_init 51 = .ok (.aload_n 1, 1) := by decide +kernel
theorem dX1_init_52 : decode cX1_init 52 = .ok (.putfield 41, 3) := by decide +kernel
theorem dX1_init_55 : decode cX1_init 55 = .ok (.aload_n 0, 1) := by decide +kernel
theorem dX1_init_56 : decode cX1_init 56 = .ok (.aload_n 2, 1) := by decide +kernel
theorem dX1_init_57 : decode cX1_init 57 = .ok (.putfield 45, 3) := by decide +kernel
theorem dX1_init_60 : decode cX1_init 60 = .ok (.return_, 1) := by decide +kernel
theorem dX1_read_0 : decode cX1_read 0 = .ok (.iconst 0, 1) := by decide +kernel
theorem dX1_read_1 : decode cX1_read 1 = .ok (.istore_n 1, 1) := by decide +kernel
theorem dX1_read_2 : decode cX1_read 2 = .ok (.iload_n 1, 1) := by decide +kernel
theorem dX1_read_3 : decode cX1_read 3 = .ok (.aload_n 0, 1) := by decide +kernel
theorem dX1_read_4 : decode cX1_read 4 = .ok (.getfield 41, 3) := by decide +kernel
theorem dX1_read_7 : decode cX1_read 7 = .ok (.invokevirtual 49, 3) := by decide +kernel
theorem dX1_read_10 : decode cX1_read 10 = .ok (.if_icmp .ge 34, 3) := by decide +kernel
theorem dX1_read_13 : decode cX1_read 13 = .ok (.aload_n 0, 1) := by decide +kernel
theorem dX1_read_14 : decode cX1_read 14 = .ok (.getfield 25, 3) := by decide +kernel
theorem dX1_read_17 : decode cX1_read 17 = .ok (.iconst (-1), 1) := by decide +kernel
theorem dX1_read_18 : decode cX1_read 18 = .ok (.if_icmp .ne 26, 3) := by decide +kernel
theorem dX1_read_21 : decode cX1_read 21 = .ok (.aload_n 0, 1) := by decide +kernel
theorem dX1_read_22 : decode cX1_read 22 = .ok (.iload_n 1, 1) := by decide +kernel
theorem dX1_read_23 : decode cX1_read 23 = .ok (.putfield 22, 3) := by decide +kernel
theorem dX1_read_26 : decode cX1_read 26 = .ok (.aload_n 0, 1) := by decide +kernel
theorem dX1_read_27 : decode cX1_read 27 = .ok (.aload_n 0, 1) := by decide +kernel
theorem dX1_read_28 : decode cX1_read 28 = .ok (.getfield 41, 3) := by decide +kernel
theorem dX1_read_31 : decode cX1_read 31 = .ok (.iload_n 1, 1) := by decide +kernel
theorem dX1_read_32 : decode cX1_read 32 = .ok (.invokevirtual 55, 3) := by decide +kernel
theorem dX1_read_35 : decode cX1_read 35 = .ok (.invokevirtual 59, 3) := by decide +kernel
theorem dX1_read_38 : decode cX1_read 38 = .ok (.iinc 1 1, 3) := by decide +kernel
theorem dX1_read_41 : decode cX1_read 41 = .ok (.goto (-39), 3) := by decide +kernel
theorem dX1_read_44 : decode cX1_read 44 = .ok (.aload_n 0, 1) := by decide +kernel
theorem dX1_read_45 : decode cX1_read 45 = .ok (.getfield 25, 3) := by decide +kernel
theorem dX1_read_48 : decode cX1_read 48 = .ok (.iconst (-1), 1) := by decide +kernel
theorem dX1_read_49 : decode cX1_read 49 = .ok (.if_icmp .ne 28, 3) := by decide +kernel
theorem dX1_read_52 : decode cX1_read 52 = .ok (.aload_n 0, 1) := by decide +kernel
theorem dX1_read_53 : decode cX1_read 53 = .ok (.getfield 18, 3) := by decide +kernel
theorem dX1_read_56 : decode cX1_read 56 = .ok (.ifCond .ne 10, 3) := by decide +kernel
theorem dX1_read_59 : decode cX1_read 59 = .ok (.aload_n 0, 1) := by decide +kernel
theorem dX1_read_60 : decode cX1_read 60 = .ok (.getfield 35, 3) := by decide +kernel
theorem dX1_read_63 : decode cX1_read 63 = .ok (.ifnull 14, 3) := by decide +kernel
theorem dX1_read_66 : decode cX1_read 66 = .ok (.aload_n 0, 1) := by decide +kernel
theorem dX1_read_67 : decode cX1_read 67 = .ok (.aload_n 0, 1) := by decide +kernel
theorem dX1_read_68 : decode cX1_read 68 = .ok (.getfield 41, 3) := by decide +kernel
theorem dX1_read_71 : decode cX1_read 71 = .ok (.invokevirtual 49, 3) := by decide +kernel
theorem dX1_read_74 : decode cX1_read 74 = .ok (.putfield 25, 3) := by decide +kernel
theorem dX1_read_77 : decode cX1_read 77 = .ok (.aload_n 0, 1) := by decide +kernel
theorem dX1_read_78 : decode cX1_read 78 = .ok (.getfield 25, 3) := by decide +kernel
theorem dX1_read_81 : decode cX1_read 81 = .ok (.iconst (-1), 1) := by decide +kernel
theorem dX1_read_82 : decode cX1_read 82 = .ok (.if_icmp .ne 10, 3) := by decide +kernel
theorem dX1_read_85 : decode cX1_read 85 = .ok (.aload_n 0, 1) := by decide +kernel
theorem dX1_read_86 : decode cX1_read 86 = .ok (.getfield 12, 3) := by decide +kernel
theorem dX1_read_89 : decode cX1_read 89 = .ok (.invokevirtual 63, 3) := by decide +kernel
theorem dX1_read_92 : decode cX1_read 92 = .ok (.aload_n 0, 1) := by decide +kernel
theorem dX1_read_93 : decode cX1_read 93 = .ok (.getfield 25, 3) := by decide +kernel
theorem dX1_read_96 : decode cX1_read 96 = .ok (.ireturn, 1) := by decide +kernel
theorem dX2_init_0 : decode cX2_init 0 = .ok (.aload_n 0, 1) := by decide +kernel
theorem dX2_init_1 : decode cX2_init 1 = .ok (.invokespecial 3, 3) := by decide +kernel
theorem dX2_init_4 : decode cX2_init 4 = .ok (.aload_n 0, 1) := by decide +kernel
theorem dX2_init_5 : decode cX2_init 5 = .ok (.iconst 0, 1) := by decide +kernel
theorem dX2_init_6 : decode cX2_init 6 = .ok (.newarray .byte, 2) := by decide +kernel
theorem dX2_init_8 : decode cX2_init 8 = .ok (.putfield 9, 3) := by decide +kernel
theorem dX2_init_11 : decode cX2_init 11 = .ok (.aload_n 0, 1) := by decide +kernel
theorem dX2_init_12 : decode cX2_init 12 = .ok (.iconst 0, 1) := by decide +kernel
theorem dX2_init_13 : decode cX2_init 13 = .ok (.putfield 15, 3) := by decide +kernel
theorem dX2_init_16 : decode cX2_init 16 = .ok (.aload_n 0, 1) := by decide +kernel
theorem dX2_init_17 : decode cX2_init 17 = .ok (.iload_n 1, 1) := by decide +kernel
theorem dX2_init_18 : decode cX2_init 18 = .ok (.putfield 19, 3) := by decide +kernel
theorem dX2_init_21 : decode cX2_init 21 = .ok (.return_, 1) := by decide +kernel
theorem dX2_size_0 : decode cX2_size 0 = .ok (.aload_n 0, 1) := by decide +kernel
theorem dX2_size_1 : decode cX2_size 1 = .ok (.getfield 15, 3) := by decide +kernel
theorem dX2_size_4 : decode cX2_size 4 = .ok (.ireturn, 1) := by decide +kernel
theorem dX2_get_0 : decode cX2_get 0 = .ok (.iload_n 1, 1) := by decide +kernel
theorem dX2_get_1 : decode cX2_get 1 = .ok (.ifCond .lt 11, 3) := by decide +kernel
theorem dX2_get_4 : decode cX2_get 4 = .ok (.iload_n 1, 1) := by decide +kernel
theorem dX2_get_5 : decode cX2_get 5 = .ok (.aload_n 0, 1) := by decide +kernel
theorem dX2_get_6 : decode cX2_get 6 = .ok (.getfield 15, 3) := by decide +kernel
theorem dX2_get_9 : decode cX2_get 9 = .ok (.if_icmp .lt 7, 3) := by decide +kernel
theorem dX2_get_12 : decode cX2_get 12 = .ok (.iconst (-1), 1) := by decide +kernel
theorem dX2_get_13 : decode cX2_get 13 = .ok (.goto 13, 3) := by decide +kernel
theorem dX2_get_16 : decode cX2_get 16 = .ok (.aload_n 0, 1) := by decide +kernel
theorem dX2_get_17 : decode cX2_get 17 = .ok (.getfield 9, 3) := by decide +kernel
theorem dX2_get_20 : decode cX2_get 20 = .ok (.iload_n 1, 1) := by decide +kernel
theorem dX2_get_21 : decode cX2_get 21 = .ok (.baload, 1) := by decide +kernel
theorem dX2_get_22 : decode cX2_get 22 = .ok (.sipush 255, 3) := by decide +kernel
theorem dX2_get_25 : decode cX2_get 25 = .ok (.iand, 1) := by decide +kernel
theorem dX2_get_26 : decode cX2_get 26 = .ok (.ireturn, 1) := by decide +kernel
theorem dX2_put_0 : decode cX2_put 0 = .ok (.iload_n 1, 1) := by decide +kernel
theorem dX2_put_1 : decode cX2_put 1 = .ok (.ifCond .lt 19, 3) := by decide +kernel
theorem dX2_put_4 : decode cX2_put 4 = .ok (.iload_n 1, 1) := by decide +kernel
theorem dX2_put_5 : decode cX2_put 5 = .ok (.aload_n 0, 1) := by decide +kernel
theorem dX2_put_6 : decode cX2_put 6 = .ok (.getfield 15, 3) := by decide +kernel
theorem dX2_put_9 : decode cX2_put 9 = .ok (.if_icmp .ge 11, 3) := by decide +kernel
theorem dX2_put_12 : decode cX2_put 12 = .ok (.aload_n 0, 1) := by decide +kernel
theorem dX2_put_13 : decode cX2_put 13 = .ok (.getfield 9, 3) := by decide +kernel
theorem dX2_put_16 : decode cX2_put 16 = .ok (.iload_n 1, 1) := by decide +kernel
theorem dX2_put_17 : decode cX2_put 17 = .ok (.iload_n 2, 1) := by decide +kernel
theorem dX2_put_18 : decode cX2_put 18 = .ok (.i2b, 1) := by decide +kernel
theorem dX2_put_19 : decode cX2_put 19 = .ok (.bastore, 1) := by decide +kernel
theorem dX2_put_20 : decode cX2_put 20 = .ok (.return_, 1) := by decide +kernel
theorem dX2_empty_0 : decode cX2_empty 0 = .ok (.aload_n 0, 1) := by decide +kernel
theorem dX2_empty_1 : decode cX2_empty 1 = .ok (.iconst 0, 1) := by decide +kernel
theorem dX2_empty_2 : decode cX2_empty 2 = .ok (.putfield 15, 3) := by decide +kernel
theorem dX2_empty_5 : decode cX2_empty 5 = .ok (.return_, 1) := by decide +kernel
theorem dX2_add_0 : decode cX2_add 0 = .ok (.aload_n 0, 1) := by decide +kernel
theorem dX2_add_1 : decode cX2_add 1 = .ok (.getfield 15, 3) := by decide +kernel
theorem dX2_add_4 : decode cX2_add 4 = .ok (.aload_n 0, 1) := by decide +kernel
theorem dX2_add_5 : decode cX2_add 5 = .ok (.getfield 19, 3) := by decide +kernel
theorem dX2_add_8 : decode cX2_add 8 = .ok (.if_icmp .ge 34, 3) := by decide +kernel
theorem dX2_add_11 : decode cX2_add 11 = .ok (.aload_n 0, 1) := by decide +kernel
theorem dX2_add_12 : decode cX2_add 12 = .ok (.aload_n 0, 1) := by decide +kernel
theorem dX2_add_13 : decode cX2_add 13 = .ok (.getfield 15, 3) := by decide +kernel
theorem dX2_add_16 : decode cX2_add 16 = .ok (.iconst 1, 1) := by decide +kernel
theorem dX2_add_17 : decode cX2_add 17 = .ok (.iadd, 1) := by decide +kernel
theorem dX2_add_18 : decode cX2_add 18 = .ok (.invokevirtual 22, 3) := by decide +kernel
theorem dX2_add_21 : decode cX2_add 21 = .ok (.aload_n 0, 1) := by decide +kernel
theorem dX2_add_22 : decode cX2_add 22 = .ok (.dup, 1) := by decide +kernel
theorem dX2_add_23 : decode cX2_add 23 = .ok (.getfield 15, 3) := by decide +kernel
theorem dX2_add_26 : decode cX2_add 26 = .ok (.iconst 1, 1) := by decide +kernel
theorem dX2_add_27 : decode cX2_add 27 = .ok (.iadd, 1) := by decide +kernel
theorem dX2_add_28 : decode cX2_add 28 = .ok (.putfield 15, 3) := by decide +kernel
theorem dX2_add_31 : decode cX2_add 31 = .ok (.aload_n 0, 1) := by decide +kernel
theorem dX2_add_32 : decode cX2_add 32 = .ok (.aload_n 0, 1) := by decide +kernel
theorem dX2_add_33 : decode cX2_add 33 = .ok (.getfield 15, 3) := by decide +kernel
theorem dX2_add_36 : decode cX2_add 36 = .ok (.iconst 1, 1) := by decide +kernel
theorem dX2_add_37 : decode cX2_add 37 = .ok (.isub, 1) := by decide +kernel
theorem dX2_add_38 : decode cX2_add 38 = .ok (.iload_n 1, 1) := by decide +kernel
theorem dX2_add_39 : decode cX2_add 39 = .ok (.invokevirtual 26, 3) := by decide +kernel
theorem dX2_add_42 : decode cX2_add 42 = .ok (.return_, 1) := by decide +kernel
theorem dX2_addPart_0 : decode cX2_addPart 0 = .ok (.iload_n 3, 1) := by decide +kernel
theorem dX2_addPart_1 : decode cX2_addPart 1 = .ok (.iload_n 2, 1) := by decide +kernel
theorem dX2_addPart_2 : decode cX2_addPart 2 = .ok (.isub, 1) := by decide +kernel
theorem dX2_addPart_3 : decode cX2_addPart 3 = .ok (.aload_n 0, 1) := by decide +kernel
theorem dX2_addPart_4 : decode cX2_addPart 4 = .ok (.getfield 19, 3) := by decide +kernel
theorem dX2_addPart_7 : decode cX2_addPart 7 = .ok (.aload_n 0, 1) := by decide +kernel
theorem dX2_addPart_8 : decode cX2_addPart 8 = .ok (.getfield 15, 3) := by decide +kernel
theorem dX2_addPart_11 : decode cX2_addPart 11 = .ok (.isub, 1) := by decide +kernel
theorem dX2_addPart_12 : decode cX2_addPart 12 = .ok (.invokestatic 30, 3) := by decide +kernel
theorem dX2_addPart_15 : decode cX2_addPart 15 = .ok (.istore 4, 2) := by decide +kernel
theorem dX2_addPart_17 : decode cX2_addPart 17 = .ok (.iload 4, 2) := by decide +kernel
theorem dX2_addPart_19 : decode cX2_addPart 19 = .ok (.ifCond .le 15, 3) := by decide +kernel
theorem dX2_addPart_22 : decode cX2_addPart 22 = .ok (.iload_n 2, 1) := by decide +kernel
theorem dX2_addPart_23 : decode cX2_addPart 23 = .ok (.ifCond .lt 11, 3) := by decide +kernel
theorem dX2_addPart_26 : decode cX2_addPart 26 = .ok (.iload_n 3, 1) := by decide +kernel
theorem dX2_addPart_27 : decode cX2_addPart 27 = .ok (.aload_n 1, 1) := by decide +kernel
theorem dX2_addPart_28 : decode cX2_addPart 28 = .ok (.getfield 15, 3) := by decide +kernel
theorem dX2_addPart_31 : decode cX2_addPart 31 = .ok (.if_icmp .le 4, 3) := by decide +kernel
theorem dX2_addPart_34 : decode cX2_addPart 34 = .ok (.return_, 1) := by decide +kernel
theorem dX2_addPart_35 : decode cX2_addPart 35 = .ok (.aload_n 0, 1) := by decide +kernel
theorem dX2_addPart_36 : decode cX2_addPart 36 = .ok (.aload_n 0, 1) := by decide +kernel
theorem dX2_addPart_37 : decode cX2_addPart 37 = .ok (.getfield 15, 3) := by decide +kernel
theorem dX2_addPart_40 : decode cX2_addPart 40 = .ok (.iload 4, 2) := by decide +kernel
theorem dX2_addPart_42 : decode cX2_addPart 42 = .ok (.iadd, 1) := by decide +kernel
theorem dX2_addPart_43 : decode cX2_addPart 43 = .ok (.invokevirtual 22, 3) := by decide +kernel
theorem dX2_addPart_46 : decode cX2_addPart 46 = .ok (.aload_n 1, 1) := by decide +kernel
theorem dX2_addPart_47 : decode cX2_addPart 47 = .ok (.getfield 9, 3) := by decide +kernel
theorem dX2_addPart_50 : decode cX2_addPart 50 = .ok (.iload_n 2, 1) := by decide +kernel
theorem dX2_addPart_51 : decode cX2_addPart 51 = .ok (.aload_n 0, 1) := by decide +kernel
theorem dX2_addPart_52 : decode cX2_addPart 52 = .ok (.getfield 9, 3) := by decide +kernel
theorem dX2_addPart_55 : decode cX2_addPart 55 = .ok (.aload_n 0, 1) := by decide +kernel
theorem dX2_addPart_56 : decode cX2_addPart 56 = .ok (.getfield 15, 3) := by decide +kernel
theorem dX2_addPart_59 : decode cX2_addPart 59 = .ok (.iload 4, 2) := by decide +kernel
theorem dX2_addPart_61 : decode cX2_addPart 61 = .ok (.invokestatic 36, 3) := by decide +kernel
theorem dX2_addPart_64 : decode cX2_addPart 64 = .ok (.aload_n 0, 1) := by decide +kernel
theorem dX2_addPart_65 : decode cX2_addPart 65 = .ok (.dup, 1) := by decide +kernel
theorem dX2_addPart_66 : decode cX2_addPart 66 = .ok (.getfield 15, 3) := by decide +kernel
theorem dX2_addPart_69 : decode cX2_addPart 69 = .ok (.iload 4, 2) := by decide +kernel
theorem dX2_addPart_71 : decode cX2_addPart 71 = .ok (.iadd, 1) := by decide +kernel
theorem dX2_addPart_72 : decode cX2_addPart 72 = .ok (.putfield 15, 3) := by decide +kernel
theorem dX2_addPart_75 : decode cX2_addPart 75 = .ok (.return_, 1) := by decide +kernel
theorem dX2_copyOf_0 : decode cX2_copyOf 0 = .ok (.aload_n 0, 1) := by decide +kernel
theorem dX2_copyOf_1 : decode cX2_copyOf 1 = .ok (.iconst 0, 1) := by decide +kernel
theorem dX2_copyOf_2 : decode cX2_copyOf 2 = .ok (.putfield 15, 3) := by decide +kernel
theorem dX2_copyOf_5 : decode cX2_copyOf 5 = .ok (.aload_n 0, 1) := by decide +kernel
theorem dX2_copyOf_6 : decode cX2_copyOf 6 = .ok (.aload_n 1, 1) := by decide +kernel
theorem dX2_copyOf_7 : decode cX2_copyOf 7 = .ok (.iconst 0, 1) := by decide +kernel
theorem dX2_copyOf_8 : decode cX2_copyOf 8 = .ok (.aload_n 1, 1) := by decide +kernel
theorem dX2_copyOf_9 : decode cX2_copyOf 9 = .ok (.getfield 15, 3) := by decide +kernel
theorem dX2_copyOf_12 : decode cX2_copyOf 12 = .ok (.invokevirtual 42, 3) := by decide +kernel
theorem dX2_copyOf_15 : decode cX2_copyOf 15 = .ok (.return_, 1) := by decide +kernel
theorem dX2_insert_0 : decode cX2_insert 0 = .ok (.iload_n 1, 1) := by decide +kernel
theorem dX2_insert_1 : decode cX2_insert 1 = .ok (.ifCond .lt 22, 3) := by decide +kernel
theorem dX2_insert_4 : decode cX2_insert 4 = .ok (.iload_n 1, 1) := by decide +kernel
theorem dX2_insert_5 : decode cX2_insert 5 = .ok (.aload_n 0, 1) := by decide +kernel
theorem dX2_insert_6 : decode cX2_insert 6 = .ok (.getfield 15, 3) := by decide +kernel
theorem dX2_insert_9 : decode cX2_insert 9 = .ok (.if_icmp .gt 14, 3) := by decide +kernel
theorem dX2_insert_12 : decode cX2_insert 12 = .ok (.aload_n 0, 1) := by decide +kernel
theorem dX2_insert_13 : decode cX2_insert 13 = .ok (.getfield 15, 3) := by decide +kernel
theorem dX2_insert_16 : decode cX2_insert 16 = .ok (.aload_n 0, 1) := by decide +kernel
theorem dX2_insert_17 : decode cX2_insert 17 = .ok (.getfield 19, 3) := by decide +kernel
theorem dX2_insert_20 : decode cX2_insert 20 = .ok (.if_icmp .lt 4, 3) := by decide +kernel
theorem dX2_insert_23 : decode cX2_insert 23 = .ok (.return_, 1) := by decide +kernel
theorem dX2_insert_24 : decode cX2_insert 24 = .ok (.aload_n 0, 1) := by decide +kernel
theorem dX2_insert_25 : decode cX2_insert 25 = .ok (.iload_n 2, 1) := by decide +kernel
theorem dX2_insert_26 : decode cX2_insert 26 = .ok (.invokevirtual 46, 3) := by decide +kernel
theorem dX2_insert_29 : decode cX2_insert 29 = .ok (.aload_n 0, 1) := by decide +kernel
theorem dX2_insert_30 : decode cX2_insert 30 = .ok (.getfield 15, 3) := by decide +kernel
theorem dX2_insert_33 : decode cX2_insert 33 = .ok (.iconst 1, 1) := by decide +kernel
theorem dX2_insert_34 : decode cX2_insert 34 = .ok (.isub, 1) := by decide +kernel
theorem dX2_insert_35 : decode cX2_insert 35 = .ok (.istore_n 3, 1) := by decide +kernel
theorem dX2_insert_36 : decode cX2_insert 36 = .ok (.iload_n 3, 1) := by decide +kernel
theorem dX2_insert_37 : decode cX2_insert 37 = .ok (.iload_n 1, 1) := by decide +kernel
theorem dX2_insert_38 : decode cX2_insert 38 = .ok (.if_icmp .le 21, 3) := by decide +kernel
theorem dX2_insert_41 : decode cX2_insert 41 = .ok (.aload_n 0, 1) := by decide +kernel
theorem dX2_insert_42 : decode cX2_insert 42 = .ok (.iload_n 3, 1) := by decide +kernel
theorem dX2_insert_43 : decode cX2_insert 43 = .ok (.aload_n 0, 1) := by decide +kernel
theorem dX2_insert_44 : decode cX2_insert 44 = .ok (.iload_n 3, 1) := by decide +kernel
theorem dX2_insert_45 : decode cX2_insert 45 = .ok (.iconst 1, 1) := by decide +kernel
theorem dX2_insert_46 : decode cX2_insert 46 = .ok (.isub, 1) := by decide +kernel
theorem dX2_insert_47 : decode cX2_insert 47 = .ok (.invokevirtual 49, 3) := by decide +kernel
theorem dX2_insert_50 : decode cX2_insert 50 = .ok (.invokevirtual 26, 3) := by decide +kernel
theorem dX2_insert_53 : decode cX2_insert 53 = .ok (.iinc 3 (-1), 3) := by decide +kernel
theorem dX2_insert_56 : decode cX2_insert 56 = .ok (.goto (-20), 3) := by decide +kernel
theorem dX2_insert_59 : decode cX2_insert 59 = .ok (.aload_n 0, 1) := by decide +kernel
theorem dX2_insert_60 : decode cX2_insert 60 = .ok (.iload_n 1, 1) := by decide +kernel
theorem dX2_insert_61 : decode cX2_insert 61 = .ok (.iload_n 2, 1) := by decide +kernel
theorem dX2_insert_62 : decode cX2_insert 62 = .ok (.invokevirtual 26, 3) := by decide +kernel
theorem dX2_insert_65 : decode cX2_insert 65 = .ok (.return_, 1) := by decide +kernel
theorem dX2_widen_0 : decode cX2_widen 0 = .ok (.iload_n 1, 1) := by decide +kernel
theorem dX2_widen_1 : decode cX2_widen 1 = .ok (.aload_n 0, 1) := by decide +kernel
theorem dX2_widen_2 : decode cX2_widen 2 = .ok (.getfield 9, 3) := by decide +kernel
theorem dX2_widen_5 : decode cX2_widen 5 = .ok (.arraylength, 1) := by decide +kernel
theorem dX2_widen_6 : decode cX2_widen 6 = .ok (.if_icmp .le 11, 3) := by decide +kernel
theorem dX2_widen_9 : decode cX2_widen 9 = .ok (.iload_n 1, 1) := by decide +kernel
theorem dX2_widen_10 : decode cX2_widen 10 = .ok (.aload_n 0, 1) := by decide +kernel
theorem dX2_widen_11 : decode cX2_widen 11 = .ok (.getfield 19, 3) := by decide +kernel
theorem dX2_widen_14 : decode cX2_widen 14 = .ok (.if_icmp .le 4, 3) := by decide +kernel
theorem dX2_widen_17 : decode cX2_widen 17 = .ok (.return_, 1) := by decide +kernel
theorem dX2_widen_18 : decode cX2_widen 18 = .ok (.aload_n 0, 1) := by decide +kernel
theorem dX2_widen_19 : decode cX2_widen 19 = .ok (.getfield 9, 3) := by decide +kernel
theorem dX2_widen_22 : decode cX2_widen 22 = .ok (.arraylength, 1) := by decide +kernel
theorem dX2_widen_23 : decode cX2_widen 23 = .ok (.bipush 8, 2) := by decide +kernel
theorem dX2_widen_25 : decode cX2_widen 25 = .ok (.if_icmp .ge 8, 3) := by decide +kernel
theorem dX2_widen_28 : decode cX2_widen 28 = .ok (.bipush 16, 2) := by decide +kernel
theorem dX2_widen_30 : decode cX2_widen 30 = .ok (.goto 10, 3) := by decide +kernel
theorem dX2_widen_33 : decode cX2_widen 33 = .ok (.iconst 2, 1) := by decide +kernel
theorem dX2_widen_34 : decode cX2_widen 34 = .ok (.aload_n 0, 1) := by decide +kernel
theorem dX2_widen_35 : decode cX2_widen 35 = .ok (.getfield 9, 3) := by decide +kernel
theorem dX2_widen_38 : decode cX2_widen 38 = .ok (.arraylength, 1) := by decide +kernel
theorem dX2_widen_39 : decode cX2_widen 39 = .ok (.imul, 1) := by decide +kernel
theorem dX2_widen_40 : decode cX2_widen 40 = .ok (.istore_n 2, 1) := by decide +kernel
theorem dX2_widen_41 : decode cX2_widen 41 = .ok (.iload_n 2, 1) := by decide +kernel
theorem dX2_widen_42 : decode cX2_widen 42 = .ok (.iload_n 1, 1) := by decide +kernel
theorem dX2_widen_43 : decode cX2_widen 43 = .ok (.if_icmp .ge 5, 3) := by decide +kernel
theorem dX2_widen_46 : decode cX2_widen 46 = .ok (.iload_n 1, 1) := by decide +kernel
theorem dX2_widen_47 : decode cX2_widen 47 = .ok (.istore_n 2, 1) := by decide +kernel
theorem dX2_widen_48 : decode cX2_widen 48 = .ok (.iload_n 2, 1) := by decide +kernel
theorem dX2_widen_49 : decode cX2_widen 49 = .ok (.aload_n 0, 1) := by decide +kernel
theorem dX2_widen_50 : decode cX2_widen 50 = .ok (.getfield 19, 3) := by decide +kernel
theorem dX2_widen_53 : decode cX2_widen 53 = .ok (.if_icmp .le 8, 3) := by decide +kernel
theorem dX2_widen_56 : decode cX2_widen 56 = .ok (.aload_n 0, 1) := by decide +kernel
theorem dX2_widen_57 : decode cX2_widen 57 = .ok (.getfield 19, 3) := by decide +kernel
theorem dX2_widen_60 : decode cX2_widen 60 = .ok (.istore_n 2, 1) := by decide +kernel
theorem dX2_widen_61 : decode cX2_widen 61 = .ok (.iload_n 2, 1) := by decide +kernel
theorem dX2_widen_62 : decode cX2_widen 62 = .ok (.newarray .byte, 2) := by decide +kernel
theorem dX2_widen_64 : decode cX2_widen 64 = .ok (.astore_n 3, 1) := by decide +kernel
theorem dX2_widen_65 : decode cX2_widen 65 = .ok (.iconst 0, 1) := by decide +kernel
theorem dX2_widen_66 : decode cX2_widen 66 = .ok (.istore 4, 2) := by decide +kernel
theorem dX2_widen_68 : decode cX2_widen 68 = .ok (.iload 4, 2) := by decide +kernel
theorem dX2_widen_70 : decode cX2_widen 70 = .ok (.aload_n 0, 1) := by decide +kernel
theorem dX2_widen_71 : decode cX2_widen 71 = .ok (.getfield 15, 3) := by decide +kernel
theorem dX2_widen_74 : decode cX2_widen 74 = .ok (.if_icmp .ge 20, 3) := by decide +kernel
theorem dX2_widen_77 : decode cX2_widen 77 = .ok (.aload_n 3, 1) := by decide +kernel
theorem dX2_widen_78 : decode cX2_widen 78 = .ok (.iload 4, 2) := by decide +kernel
theorem dX2_widen_80 : decode cX2_widen 80 = .ok (.aload_n 0, 1) := by decide +kernel
theorem dX2_widen_81 : decode cX2_widen 81 = .ok (.getfield 9, 3) := by decide +kernel
theorem dX2_widen_84 : decode cX2_widen 84 = .ok (.iload 4, 2) := by decide +kernel
theorem dX2_widen_86 : decode cX2_widen 86 = .ok (.baload, 1) := by decide +kernel
theorem dX2_widen_87 : decode cX2_widen 87 = .ok (.bastore, 1) := by decide +kernel
theorem dX2_widen_88 : decode cX2_widen 88 = .ok (.iinc 4 1, 3) := by decide +kernel
theorem dX2_widen_91 : decode cX2_widen 91 = .ok (.goto (-23), 3) := by decide +kernel
theorem dX2_widen_94 : decode cX2_widen 94 = .ok (.aload_n 0, 1) := by decide +kernel
theorem dX2_widen_95 : decode cX2_widen 95 = .ok (.aload_n 3, 1) := by decide +kernel
theorem dX2_widen_96 : decode cX2_widen 96 = .ok (.putfield 9, 3) := by decide +kernel
theorem dX2_widen_99 : decode cX2_widen 99 = .ok (.return_, 1) := by decide +kernel
theorem dX3_init_0 : decode cX3_init 0 = .ok (.aload_n 0, 1) := by decide +kernel
theorem dX3_init_1 : decode cX3_init 1 = .ok (.invokespecial 3, 3) := by decide +kernel
theorem dX3_init_4 : decode cX3_init 4 = .ok (.aload_n 0, 1) := by decide +kernel
theorem dX3_init_5 : decode cX3_init 5 = .ok (.iconst (-1), 1) := by decide +kernel
theorem dX3_init_6 : decode cX3_init 6 = .ok (.putfield 9, 3) := by decide +kernel
theorem dX3_init_9 : decode cX3_init 9 = .ok (.aload_n 0, 1) := by decide +kernel
theorem dX3_init_10 : decode cX3_init 10 = .ok (.iconst 0, 1) := by decide +kernel
theorem dX3_init_11 : decode cX3_init 11 = .ok (.putfield 15, 3) := by decide +kernel
theorem dX3_init_14 : decode cX3_init 14 = .ok (.aload_n 0, 1) := by decide +kernel
theorem dX3_init_15 : decode cX3_init 15 = .ok (.bipush 10, 2) := by decide +kernel
theorem dX3_init_17 : decode cX3_init 17 = .ok (.newarray .boolean, 2) := by decide +kernel
theorem dX3_init_19 : decode cX3_init 19 = .ok (.putfield 19, 3) := by decide +kernel
theorem dX3_init_22 : decode cX3_init 22 = .ok (.aload_n 0, 1) := by decide +kernel
theorem dX3_init_23 : decode cX3_init 23 = .ok (.bipush 10, 2) := by decide +kernel
theorem dX3_init_25 : decode cX3_init 25 = .ok (.anewarray 23, 3) := by decide +kernel
theorem dX3_init_28 : decode cX3_init 28 = .ok (.putfield 25, 3) := by decide +kernel
theorem dX3_init_31 : decode cX3_init 31 = .ok (.aload_n 0, 1) := by decide +kernel
theorem dX3_init_32 : decode cX3_init 32 = .ok (.bipush 10, 2) := by decide +kernel
theorem dX3_init_34 : decode cX3_init 34 = .ok (.anewarray 10, 3) := by decide +kernel
theorem dX3_init_37 : decode cX3_init 37 = .ok (.putfield 29, 3) := by decide +kernel
theorem dX3_init_40 : decode cX3_init 40 = .ok (.aload_n 0, 1) := by decide +kernel
theorem dX3_init_41 : decode cX3_init 41 = .ok (.bipush 16, 2) := by decide +kernel
theorem dX3_init_43 : decode cX3_init 43 = .ok (.newarray .int, 2) := by decide +kernel
theorem dX3_init_45 : decode cX3_init 45 = .ok (.putfield 33, 3) := by decide +kernel
theorem dX3_init_48 : decode cX3_init 48 = .ok (.aload_n 0, 1) := by decide +kernel
theorem dX3_init_49 : decode cX3_init 49 = .ok (.bipush 16, 2) := by decide +kernel
theorem dX3_init_51 : decode cX3_init 51 = .ok (.newarray .int, 2) := by decide +kernel
theorem dX3_init_53 : decode cX3_init 53 = .ok (.putfield 37, 3) := by decide +kernel
theorem dX3_init_56 : decode cX3_init 56 = .ok (.aload_n 0, 1) := by decide +kernel
theorem dX3_init_57 : decode cX3_init 57 = .ok (.aload_n 1, 1) := by decide +kernel
theorem dX3_init_58 : decode cX3_init 58 = .ok (.putfield 40, 3) := by decide +kernel
theorem dX3_init_61 : decode cX3_init 61 = .ok (.iconst 0, 1) := by decide +kernel
theorem dX3_init_62 : decode cX3_init 62 = .ok (.istore_n 2, 1) := by decide +kernel
theorem dX3_init_63 : decode cX3_init 63 = .ok (.iload_n 2, 1) := by decide +kernel
theorem dX3_init_64 : decode cX3_init 64 = .ok (.aload_n 0, 1) := by decide +kernel
theorem dX3_init_65 : decode cX3_init 65 = .ok (.getfield 25, 3) := by decide +kernel
theorem dX3_init_68 : decode cX3_init 68 = .ok (.arraylength, 1) := by decide +kernel
theorem dX3_init_69 : decode cX3_init 69 = .ok (.if_icmp .ge 25, 3) := by decide +kernel
theorem dX3_init_72 : decode cX3_init 72 = .ok (.aload_n 0, 1) := by decide +kernel
theorem dX3_init_73 : decode cX3_init 73 = .ok (.getfield 25, 3) := by decide +kernel
theorem dX3_init_76 : decode cX3_init 76 = .ok (.iload_n 2, 1) := by decide +kernel
theorem dX3_init_77 : decode cX3_init 77 = .ok (.new 23, 3) := by decide +kernel
theorem dX3_init_80 : decode cX3_init 80 = .ok (.dup, 1) := by decide +kernel
theorem dX3_init_81 : decode cX3_init 81 = .ok (.sipush 241, 3) := by decide +kernel
theorem dX3_init_84 : decode cX3_init 84 = .ok (.invokespecial 44, 3) := by decide +kernel
theorem dX3_init_87 : decode cX3_init 87 = .ok (.aastore, 1) := by decide +kernel
theorem dX3_init_88 : decode cX3_init 88 = .ok (.iinc 2 1, 3) := by decide +kernel
theorem dX3_init_91 : decode cX3_init 91 = .ok (.goto (-28), 3) := by decide +kernel
theorem dX3_init_94 : decode cX3_init 94 = .ok (.return_, 1) := by decide +kernel
theorem dX3_begin_0 : decode cX3_begin 0 = .ok (.aload_n 0, 1) := by decide +kernel
theorem dX3_begin_1 : decode cX3_begin 1 = .ok (.aload_n 1, 1) := by decide +kernel
theorem dX3_begin_2 : decode cX3_begin 2 = .ok (.putfield 40, 3) := by decide +kernel
theorem dX3_begin_5 : decode cX3_begin 5 = .ok (.iconst 0, 1) := by decide +kernel
theorem dX3_begin_6 : decode cX3_begin 6 = .ok (.istore_n 2, 1) := by decide +kernel
theorem dX3_begin_7 : decode cX3_begin 7 = .ok (.iload_n 2, 1) := by decide +kernel
theorem dX3_begin_8 : decode cX3_begin 8 = .ok (.bipush 10, 2) := by decide +kernel
theorem dX3_begin_10 : decode cX3_begin 10 = .ok (.if_icmp .ge 23, 3) := by decide +kernel
theorem dX3_begin_13 : decode cX3_begin 13 = .ok (.aload_n 0, 1) := by decide +kernel
theorem dX3_begin_14 : decode cX3_begin 14 = .ok (.getfield 19, 3) := by decide +kernel
theorem dX3_begin_17 : decode cX3_begin 17 = .ok (.iload_n 2, 1) := by decide +kernel
theorem dX3_begin_18 : decode cX3_begin 18 = .ok (.iconst 0, 1) := by decide +kernel
theorem dX3_begin_19 : decode cX3_begin 19 = .ok (.bastore, 1) := by decide +kernel
theorem dX3_begin_20 : decode cX3_begin 20 = .ok (.aload_n 0, 1) := by decide +kernel
theorem dX3_begin_21 : decode cX3_begin 21 = .ok (.getfield 29, 3) := by decide +kernel
theorem dX3_begin_24 : decode cX3_begin 24 = .ok (.iload_n 2, 1) := by decide +kernel
theorem dX3_begin_25 : decode cX3_begin 25 = .ok (.aconst_null, 1) := by decide +kernel
theorem dX3_begin_26 : decode cX3_begin 26 = .ok (.aastore, 1) := by decide +kernel
theorem dX3_begin_27 : decode cX3_begin 27 = .ok (.iinc 2 1, 3) := by decide +kernel
theorem dX3_begin_30 : decode cX3_begin 30 = .ok (.goto (-23), 3) := by decide +kernel
theorem dX3_begin_33 : decode cX3_begin 33 = .ok (.aload_n 0, 1) := by decide +kernel
theorem dX3_begin_34 : decode cX3_begin 34 = .ok (.aload_n 0, 1) := by decide +kernel
theorem dX3_begin_35 : decode cX3_begin 35 = .ok (.iconst 0, 1) := by decide +kernel
theorem dX3_begin_36 : decode cX3_begin 36 = .ok (.invokevirtual 51, 3) := by decide +kernel
theorem dX3_begin_39 : decode cX3_begin 39 = .ok (.invokevirtual 55, 3) := by decide +kernel
theorem dX3_begin_42 : decode cX3_begin 42 = .ok (.return_, 1) := by decide +kernel
theorem dX3_comeTo_0 : decode cX3_comeTo 0 = .ok (.aload_n 0, 1) := by decide +kernel
theorem dX3_comeTo_1 : decode cX3_comeTo 1 = .ok (.iload_n 1, 1) := by decide +kernel
theorem dX3_comeTo_2 : decode cX3_comeTo 2 = .ok (.putfield 9, 3) := by decide +kernel
theorem dX3_comeTo_5 : decode cX3_comeTo 5 = .ok (.aload_n 0, 1) := by decide +kernel
theorem dX3_comeTo_6 : decode cX3_comeTo 6 = .ok (.iconst 1, 1) := by decide +kernel
theorem dX3_comeTo_7 : decode cX3_comeTo 7 = .ok (.putfield 15, 3) := by decide +kernel
theorem dX3_comeTo_10 : decode cX3_comeTo 10 = .ok (.return_, 1) := by decide +kernel
theorem dX3_findThere_0 : decode cX3_findThere 0 = .ok (.iconst 0, 1) := by decide +kernel
theorem dX3_findThere_1 : decode cX3_findThere 1 = .ok (.istore_n 3, 1) := by decide +kernel
theorem dX3_findThere_2 : decode cX3_findThere 2 = .ok (.iconst 0, 1) := by decide +kernel
theorem dX3_findThere_3 : decode cX3_findThere 3 = .ok (.istore 4, 2) := by decide +kernel
theorem dX3_findThere_5 : decode cX3_findThere 5 = .ok (.iload 4, 2) := by decide +kernel
theorem dX3_findThere_7 : decode cX3_findThere 7 = .ok (.aload_n 0, 1) := by decide +kernel
theorem dX3_findThere_8 : decode cX3_findThere 8 = .ok (.getfield 40, 3) := by decide +kernel
theorem dX3_findThere_11 : decode cX3_findThere 11 = .ok (.invokevirtual 78, 3) := by decide +kernel
theorem dX3_findThere_14 : decode cX3_findThere 14 = .ok (.if_icmp .ge 54, 3) := by decide +kernel
theorem dX3_findThere_17 : decode cX3_findThere 17 = .ok (.aload_n 0, 1) := by decide +kernel
theorem dX3_findThere_18 : decode cX3_findThere 18 = .ok (.getfield 40, 3) := by decide +kernel
theorem dX3_findThere_21 : decode cX3_findThere 21 = .ok (.iload 4, 2) := by decide +kernel
theorem dX3_findThere_23 : decode cX3_findThere 23 = .ok (.invokevirtual 82, 3) := by decide +kernel
theorem dX3_findThere_26 : decode cX3_findThere 26 = .ok (.astore 5, 2) := by decide +kernel
theorem dX3_findThere_28 : decode cX3_findThere 28 = .ok (.aload 5, 2) := by decide +kernel
theorem dX3_findThere_30 : decode cX3_findThere 30 = .ok (.ifnull 32, 3) := by decide +kernel
theorem dX3_findThere_33 : decode cX3_findThere 33 = .ok (.aload 5, 2) := by decide +kernel
theorem dX3_findThere_35 : decode cX3_findThere 35 = .ok (.getfield 74, 3) := by decide +kernel
theorem dX3_findThere_38 : decode cX3_findThere 38 = .ok (.iload_n 1, 1) := by decide +kernel
theorem dX3_findThere_39 : decode cX3_findThere 39 = .ok (.if_icmp .ne 23, 3) := by decide +kernel
theorem dX3_findThere_42 : decode cX3_findThere 42 = .ok (.aload_n 0, 1) := by decide +kernel
theorem dX3_findThere_43 : decode cX3_findThere 43 = .ok (.aload 5, 2) := by decide +kernel
theorem dX3_findThere_45 : decode cX3_findThere 45 = .ok (.invokevirtual 86, 3) := by decide +kernel
theorem dX3_findThere_48 : decode cX3_findThere 48 = .ok (.ifCond .eq 14, 3) := by decide +kernel
theorem dX3_findThere_51 : decode cX3_findThere 51 = .ok (.iload_n 3, 1) := by decide +kernel
theorem dX3_findThere_52 : decode cX3_findThere 52 = .ok (.iload_n 2, 1) := by decide +kernel
theorem dX3_findThere_53 : decode cX3_findThere 53 = .ok (.if_icmp .ne 6, 3) := by decide +kernel
theorem dX3_findThere_56 : decode cX3_findThere 56 = .ok (.aload 5, 2) := by decide +kernel
theorem dX3_findThere_58 : decode cX3_findThere 58 = .ok (.areturn, 1) := by decide +kernel
theorem dX3_findThere_59 : decode cX3_findThere 59 = .ok (.iinc 3 1, 3) := by decide +kernel
theorem dX3_findThere_62 : decode cX3_findThere 62 = .ok (.iinc 4 1, 3) := by decide +kernel
theorem dX3_findThere_65 : decode cX3_findThere 65 = .ok (.goto (-60), 3) := by decide +kernel
theorem dX3_findThere_68 : decode cX3_findThere 68 = .ok (.aconst_null, 1) := by decide +kernel
theorem dX3_findThere_69 : decode cX3_findThere 69 = .ok (.areturn, 1) := by decide +kernel
theorem dX3_occurrencesThere_0 : decode cX3_occurrencesThere 0 = .ok (.iconst 0, 1) := by decide +kernel
theorem dX3_occurrencesThere_1 : decode cX3_occurrencesThere 1 = .ok (.istore_n 2, 1) := by decide +kernel
theorem dX3_occurrencesThere_2 : decode cX3_occurrencesThere 2 = .ok (.iconst 0, 1) := by decide +kernel
theorem dX3_occurrencesThere_3 : decode cX3_occurrencesThere 3 = .ok (.istore_n 3, 1) := by decide +kernel
theorem dX3_occurrencesThere_4 : decode cX3_occurrencesThere 4 = .ok (.iload_n 3, 1) := by decide +kernel
theorem dX3_occurrencesThere_5 : decode cX3_occurrencesThere 5 = .ok (.aload_n 0, 1) := by decide +kernel
theorem dX3_occurrencesThere_6 : decode cX3_occurrencesThere 6 = .ok (.getfield 40, 3) := by decide +kernel
theorem dX3_occurrencesThere_9 : decode cX3_occurrencesThere 9 = .ok (.invokevirtual 78, 3) := by decide +kernel
theorem dX3_occurrencesThere_12 : decode cX3_occurrencesThere 12 = .ok (.if_icmp .ge 45, 3) := by decide +kernel
theorem dX3_occurrencesThere_15 : decode cX3_occurrencesThere 15 = .ok (.aload_n 0, 1) := by decide +kernel
theorem dX3_occurrencesThere_16 : decode cX3_occurrencesThere 16 = .ok (.getfield 40, 3) := by decide +kernel
theorem dX3_occurrencesThere_19 : decode cX3_occurrencesThere 19 = .ok (.iload_n 3, 1) := by decide +kernel
theorem dX3_occurrencesThere_20 : decode cX3_occurrencesThere 20 = .ok (.invokevirtual 82, 3) := by decide +kernel
theorem dX3_occurrencesThere_23 : decode cX3_occurrencesThere 23 = .ok (.astore 4, 2) := by decide +kernel
theorem dX3_occurrencesThere_25 : decode cX3_occurrencesThere 25 = .ok (.aload 4, 2) := by decide +kernel
theorem dX3_occurrencesThere_27 : decode cX3_occurrencesThere 27 = .ok (.ifnull 24, 3) := by decide +kernel
theorem dX3_occurrencesThere_30 : decode cX3_occurrencesThere 30 = .ok (.aload 4, 2) := by decide +kernel
theorem dX3_occurrencesThere_32 : decode cX3_occurrencesThere 32 = .ok (.getfield 74, 3) := by decide +kernel
theorem dX3_occurrencesThere_35 : decode cX3_occurrencesThere 35 = .ok (.iload_n 1, 1) := by decide +kernel
theorem dX3_occurrencesThere_36 : decode cX3_occurrencesThere 36 = .ok (.if_icmp .ne 15, 3) := by decide +kernel
theorem dX3_occurrencesThere_39 : decode cX3_occurrencesThere 39 = .ok (.aload_n 0, 1) := by decide +kernel
theorem dX3_occurrencesThere_40 : decode cX3_occurrencesThere 40 = .ok (.aload 4, 2) := by decide +kernel
theorem dX3_occurrencesThere_42 : decode cX3_occurrencesThere 42 = .ok (.invokevirtual 86, 3) := by decide +kernel
theorem dX3_occurrencesThere_45 : decode cX3_occurrencesThere 45 = .ok (.ifCond .eq 6, 3) := by decide +kernel
theorem dX3_occurrencesThere_48 : decode cX3_occurrencesThere 48 = .ok (.iinc 2 1, 3) := by decide +kernel
theorem dX3_occurrencesThere_51 : decode cX3_occurrencesThere 51 = .ok (.iinc 3 1, 3) := by decide +kernel
theorem dX3_occurrencesThere_54 : decode cX3_occurrencesThere 54 = .ok (.goto (-50), 3) := by decide +kernel
theorem dX3_occurrencesThere_57 : decode cX3_occurrencesThere 57 = .ok (.iload_n 2, 1) := by decide +kernel
theorem dX3_occurrencesThere_58 : decode cX3_occurrencesThere 58 = .ok (.ireturn, 1) := by decide +kernel
theorem dX3_leastAbove_0 : decode cX3_leastAbove 0 = .ok (.iconst 1, 1) := by decide +kernel
theorem dX3_leastAbove_1 : decode cX3_leastAbove 1 = .ok (.istore_n 2, 1) := by decide +kernel
theorem dX3_leastAbove_2 : decode cX3_leastAbove 2 = .ok (.iload_n 2, 1) := by decide +kernel
theorem dX3_leastAbove_3 : decode cX3_leastAbove 3 = .ok (.bipush 10, 2) := by decide +kernel
theorem dX3_leastAbove_5 : decode cX3_leastAbove 5 = .ok (.if_icmp .ge 24, 3) := by decide +kernel
theorem dX3_leastAbove_8 : decode cX3_leastAbove 8 = .ok (.iload_n 2, 1) := by decide +kernel
theorem dX3_leastAbove_9 : decode cX3_leastAbove 9 = .ok (.iload_n 1, 1) := by decide +kernel
theorem dX3_leastAbove_10 : decode cX3_leastAbove 10 = .ok (.if_icmp .le 13, 3) := by decide +kernel
theorem dX3_leastAbove_13 : decode cX3_leastAbove 13 = .ok (.aload_n 0, 1) := by decide +kernel
theorem dX3_leastAbove_14 : decode cX3_leastAbove 14 = .ok (.iload_n 2, 1) := by decide +kernel
theorem dX3_leastAbove_15 : decode cX3_leastAbove 15 = .ok (.invokevirtual 89, 3) := by decide +kernel
theorem dX3_leastAbove_18 : decode cX3_leastAbove 18 = .ok (.ifCond .le 5, 3) := by decide +kernel
theorem dX3_leastAbove_21 : decode cX3_leastAbove 21 = .ok (.iload_n 2, 1) := by decide +kernel
theorem dX3_leastAbove_22 : decode cX3_leastAbove 22 = .ok (.ireturn, 1) := by decide +kernel
theorem dX3_leastAbove_23 : decode cX3_leastAbove 23 = .ok (.iinc 2 1, 3) := by decide +kernel
theorem dX3_leastAbove_26 : decode cX3_leastAbove 26 = .ok (.goto (-24), 3) := by decide +kernel
theorem dX3_leastAbove_29 : decode cX3_leastAbove 29 = .ok (.iconst (-1), 1) := by decide +kernel
theorem dX3_leastAbove_30 : decode cX3_leastAbove 30 = .ok (.ireturn, 1) := by decide +kernel
theorem dX3_layOut_0 : decode cX3_layOut 0 = .ok (.aload_n 0, 1) := by decide +kernel
theorem dX3_layOut_1 : decode cX3_layOut 1 = .ok (.aload_n 1, 1) := by decide +kernel
theorem dX3_layOut_2 : decode cX3_layOut 2 = .ok (.aconst_null, 1) := by decide +kernel
theorem dX3_layOut_3 : decode cX3_layOut 3 = .ok (.iconst 0, 1) := by decide +kernel
theorem dX3_layOut_4 : decode cX3_layOut 4 = .ok (.iconst 0, 1) := by decide +kernel
theorem dX3_layOut_5 : decode cX3_layOut 5 = .ok (.iconst 1, 1) := by decide +kernel
theorem dX3_layOut_6 : decode cX3_layOut 6 = .ok (.invokevirtual 139, 3) := by decide +kernel
theorem dX3_layOut_9 : decode cX3_layOut 9 = .ok (.return_, 1) := by decide +kernel
theorem dX3_putItems_0 : decode cX3_putItems 0 = .ok (.aload_n 2, 1) := by decide +kernel
theorem dX3_putItems_1 : decode cX3_putItems 1 = .ok (.ifnonnull 7, 3) := by decide +kernel
theorem dX3_putItems_4 : decode cX3_putItems 4 = .ok (.iconst 0, 1) := by decide +kernel
theorem dX3_putItems_5 : decode cX3_putItems 5 = .ok (.goto 7, 3) := by decide +kernel
theorem dX3_putItems_8 : decode cX3_putItems 8 = .ok (.aload_n 2, 1) := by decide +kernel
theorem dX3_putItems_9 : decode cX3_putItems 9 = .ok (.getfield 143, 3) := by decide +kernel
theorem dX3_putItems_12 : decode cX3_putItems 12 = .ok (.istore 6, 2) := by decide +kernel
theorem dX3_putItems_14 : decode cX3_putItems 14 = .ok (.aload_n 2, 1) := by decide +kernel
theorem dX3_putItems_15 : decode cX3_putItems 15 = .ok (.ifnonnull 16, 3) := by decide +kernel
theorem dX3_putItems_18 : decode cX3_putItems 18 = .ok (.aload_n 0, 1) := by decide +kernel
theorem dX3_putItems_19 : decode cX3_putItems 19 = .ok (.getfield 40, 3) := by decide +kernel
theorem dX3_putItems_22 : decode cX3_putItems 22 = .ok (.getfield 146, 3) := by decide +kernel
theorem dX3_putItems_25 : decode cX3_putItems 25 = .ok (.invokevirtual 104, 3) := by decide +kernel
theorem dX3_putItems_28 : decode cX3_putItems 28 = .ok (.goto 7, 3) := by decide +kernel
theorem dX3_putItems_31 : decode cX3_putItems 31 = .ok (.aload_n 2, 1) := by decide +kernel
theorem dX3_putItems_32 : decode cX3_putItems 32 = .ok (.getfield 150, 3) := by decide +kernel
theorem dX3_putItems_35 : decode cX3_putItems 35 = .ok (.istore 7, 2) := by decide +kernel
theorem dX3_putItems_37 : decode cX3_putItems 37 = .ok (.iload 6, 2) := by decide +kernel
theorem dX3_putItems_39 : decode cX3_putItems 39 = .ok (.istore 8, 2) := by decide +kernel
theorem dX3_putItems_41 : decode cX3_putItems 41 = .ok (.iload 8, 2) := by decide +kernel
theorem dX3_putItems_43 : decode cX3_putItems 43 = .ok (.iload 7, 2) := by decide +kernel
theorem dX3_putItems_45 : decode cX3_putItems 45 = .ok (.if_icmp .ge 74, 3) := by decide +kernel
theorem dX3_putItems_48 : decode cX3_putItems 48 = .ok (.aload_n 0, 1) := by decide +kernel
theorem dX3_putItems_49 : decode cX3_putItems 49 = .ok (.getfield 40, 3) := by decide +kernel
theorem dX3_putItems_52 : decode cX3_putItems 52 = .ok (.getfield 146, 3) := by decide +kernel
theorem dX3_putItems_55 : decode cX3_putItems 55 = .ok (.iload 8, 2) := by decide +kernel
theorem dX3_putItems_57 : decode cX3_putItems 57 = .ok (.invokevirtual 153, 3) := by decide +kernel
theorem dX3_putItems_60 : decode cX3_putItems 60 = .ok (.istore 9, 2) := by decide +kernel
theorem dX3_putItems_62 : decode cX3_putItems 62 = .ok (.aload_n 0, 1) := by decide +kernel
theorem dX3_putItems_63 : decode cX3_putItems 63 = .ok (.getfield 40, 3) := by decide +kernel
theorem dX3_putItems_66 : decode cX3_putItems 66 = .ok (.iload 9, 2) := by decide +kernel
theorem dX3_putItems_68 : decode cX3_putItems 68 = .ok (.invokevirtual 155, 3) := by decide +kernel
theorem dX3_putItems_71 : decode cX3_putItems 71 = .ok (.astore 10, 2) := by decide +kernel
theorem dX3_putItems_73 : decode cX3_putItems 73 = .ok (.aload 10, 2) := by decide +kernel
theorem dX3_putItems_75 : decode cX3_putItems 75 = .ok (.ifnonnull 12, 3) := by decide +kernel
theorem dX3_putItems_78 : decode cX3_putItems 78 = .ok (.aload_n 1, 1) := by decide +kernel
theorem dX3_putItems_79 : decode cX3_putItems 79 = .ok (.iload 9, 2) := by decide +kernel
theorem dX3_putItems_81 : decode cX3_putItems 81 = .ok (.invokevirtual 101, 3) := by decide +kernel
theorem dX3_putItems_84 : decode cX3_putItems 84 = .ok (.goto 29, 3) := by decide +kernel
theorem dX3_putItems_87 : decode cX3_putItems 87 = .ok (.aload_n 0, 1) := by decide +kernel
theorem dX3_putItems_88 : decode cX3_putItems 88 = .ok (.aload_n 1, 1) := by decide +kernel
theorem dX3_putItems_89 : decode cX3_putItems 89 = .ok (.aload 10, 2) := by decide +kernel
theorem dX3_putItems_91 : decode cX3_putItems 91 = .ok (.iload_n 3, 1) := by decide +kernel
theorem dX3_putItems_92 : decode cX3_putItems 92 = .ok (.iload 4, 2) := by decide +kernel
theorem dX3_putItems_94 : decode cX3_putItems 94 = .ok (.iload 5, 2) := by decide +kernel
theorem dX3_putItems_96 : decode cX3_putItems 96 = .ok (.invokevirtual 158, 3) := by decide +kernel
theorem dX3_putItems_99 : decode cX3_putItems 99 = .ok (.iload 8, 2) := by decide +kernel
theorem dX3_putItems_101 : decode cX3_putItems 101 = .ok (.aload 10, 2) := by decide +kernel
theorem dX3_putItems_103 : decode cX3_putItems 103 = .ok (.getfield 150, 3) := by decide +kernel
theorem dX3_putItems_106 : decode cX3_putItems 106 = .ok (.iconst 1, 1) := by decide +kernel
theorem dX3_putItems_107 : decode cX3_putItems 107 = .ok (.isub, 1) := by decide +kernel
theorem dX3_putItems_108 : decode cX3_putItems 108 = .ok (.invokestatic 161, 3) := by decide +kernel
theorem dX3_putItems_111 : decode cX3_putItems 111 = .ok (.istore 8, 2) := by decide +kernel
theorem dX3_putItems_113 : decode cX3_putItems 113 = .ok (.iinc 8 1, 3) := by decide +kernel
theorem dX3_putItems_116 : decode cX3_putItems 116 = .ok (.goto (-75), 3) := by decide +kernel
theorem dX3_putItems_119 : decode cX3_putItems 119 = .ok (.return_, 1) := by decide +kernel
theorem dX4_init_0 : decode cX4_init 0 = .ok (.aload_n 0, 1) := by decide +kernel
theorem dX4_init_1 : decode cX4_init 1 = .ok (.invokespecial 3, 3) := by decide +kernel
theorem dX4_init_4 : decode cX4_init 4 = .ok (.aload_n 0, 1) := by decide +kernel
theorem dX4_init_5 : decode cX4_init 5 = .ok (.new 9, 3) := by decide +kernel
theorem dX4_init_8 : decode cX4_init 8 = .ok (.dup, 1) := by decide +kernel
theorem dX4_init_9 : decode cX4_init 9 = .ok (.sipush 241, 3) := by decide +kernel
theorem dX4_init_12 : decode cX4_init 12 = .ok (.invokespecial 11, 3) := by decide +kernel
theorem dX4_init_15 : decode cX4_init 15 = .ok (.putfield 14, 3) := by decide +kernel
theorem dX4_init_18 : decode cX4_init 18 = .ok (.aload_n 0, 1) := by decide +kernel
theorem dX4_init_19 : decode cX4_init 19 = .ok (.iconst 0, 1) := by decide +kernel
theorem dX4_init_20 : decode cX4_init 20 = .ok (.putfield 20, 3) := by decide +kernel
theorem dX4_init_23 : decode cX4_init 23 = .ok (.aload_n 0, 1) := by decide +kernel
theorem dX4_init_24 : decode cX4_init 24 = .ok (.iconst 4, 1) := by decide +kernel
theorem dX4_init_25 : decode cX4_init 25 = .ok (.anewarray 9, 3) := by decide +kernel
theorem dX4_init_28 : decode cX4_init 28 = .ok (.putfield 24, 3) := by decide +kernel
theorem dX4_init_31 : decode cX4_init 31 = .ok (.aload_n 0, 1) := by decide +kernel
theorem dX4_init_32 : decode cX4_init 32 = .ok (.iconst 3, 1) := by decide +kernel
theorem dX4_init_33 : decode cX4_init 33 = .ok (.anewarray 28, 3) := by decide +kernel
theorem dX4_init_36 : decode cX4_init 36 = .ok (.putfield 30, 3) := by decide +kernel
theorem dX4_init_39 : decode cX4_init 39 = .ok (.aload_n 0, 1) := by decide +kernel
theorem dX4_init_40 : decode cX4_init 40 = .ok (.iconst 0, 1) := by decide +kernel
theorem dX4_init_41 : decode cX4_init 41 = .ok (.putfield 34, 3) := by decide +kernel
theorem dX4_init_44 : decode cX4_init 44 = .ok (.aload_n 0, 1) := by decide +kernel
theorem dX4_init_45 : decode cX4_init 45 = .ok (.new 9, 3) := by decide +kernel
theorem dX4_init_48 : decode cX4_init 48 = .ok (.dup, 1) := by decide +kernel
theorem dX4_init_49 : decode cX4_init 49 = .ok (.sipush 241, 3) := by decide +kernel
theorem dX4_init_52 : decode cX4_init 52 = .ok (.invokespecial 11, 3) := by decide +kernel
theorem dX4_init_55 : decode cX4_init 55 = .ok (.putfield 37, 3) := by decide +kernel
theorem dX4_init_58 : decode cX4_init 58 = .ok (.iconst 0, 1) := by decide +kernel
theorem dX4_init_59 : decode cX4_init 59 = .ok (.istore_n 2, 1) := by decide +kernel
theorem dX4_init_60 : decode cX4_init 60 = .ok (.iload_n 2, 1) := by decide +kernel
theorem dX4_init_61 : decode cX4_init 61 = .ok (.aload_n 0, 1) := by decide +kernel
theorem dX4_init_62 : decode cX4_init 62 = .ok (.getfield 24, 3) := by decide +kernel
theorem dX4_init_65 : decode cX4_init 65 = .ok (.arraylength, 1) := by decide +kernel
theorem dX4_init_66 : decode cX4_init 66 = .ok (.if_icmp .ge 24, 3) := by decide +kernel
theorem dX4_init_69 : decode cX4_init 69 = .ok (.aload_n 0, 1) := by decide +kernel
theorem dX4_init_70 : decode cX4_init 70 = .ok (.getfield 24, 3) := by decide +kernel
theorem dX4_init_73 : decode cX4_init 73 = .ok (.iload_n 2, 1) := by decide +kernel
theorem dX4_init_74 : decode cX4_init 74 = .ok (.new 9, 3) := by decide +kernel
theorem dX4_init_77 : decode cX4_init 77 = .ok (.dup, 1) := by decide +kernel
theorem dX4_init_78 : decode cX4_init 78 = .ok (.bipush 12, 2) := by decide +kernel
theorem dX4_init_80 : decode cX4_init 80 = .ok (.invokespecial 11, 3) := by decide +kernel
theorem dX4_init_83 : decode cX4_init 83 = .ok (.aastore, 1) := by decide +kernel
theorem dX4_init_84 : decode cX4_init 84 = .ok (.iinc 2 1, 3) := by decide +kernel
theorem dX4_init_87 : decode cX4_init 87 = .ok (.goto (-27), 3) := by decide +kernel
theorem dX4_init_90 : decode cX4_init 90 = .ok (.iconst 0, 1) := by decide +kernel
theorem dX4_init_91 : decode cX4_init 91 = .ok (.istore_n 2, 1) := by decide +kernel
theorem dX4_init_92 : decode cX4_init 92 = .ok (.iload_n 2, 1) := by decide +kernel
theorem dX4_init_93 : decode cX4_init 93 = .ok (.aload_n 0, 1) := by decide +kernel
theorem dX4_init_94 : decode cX4_init 94 = .ok (.getfield 30, 3) := by decide +kernel
theorem dX4_init_97 : decode cX4_init 97 = .ok (.arraylength, 1) := by decide +kernel
theorem dX4_init_98 : decode cX4_init 98 = .ok (.if_icmp .ge 23, 3) := by decide +kernel
theorem dX4_init_101 : decode cX4_init 101 = .ok (.aload_n 0, 1) := by decide +kernel
theorem dX4_init_102 : decode cX4_init 102 = .ok (.getfield 30, 3) := by decide +kernel
theorem dX4_init_105 : decode cX4_init 105 = .ok (.iload_n 2, 1) := by decide +kernel
theorem dX4_init_106 : decode cX4_init 106 = .ok (.new 28, 3) := by decide +kernel
theorem dX4_init_109 : decode cX4_init 109 = .ok (.dup, 1) := by decide +kernel
theorem dX4_init_110 : decode cX4_init 110 = .ok (.aload_n 1, 1) := by decide +kernel
theorem dX4_init_111 : decode cX4_init 111 = .ok (.invokespecial 40, 3) := by decide +kernel
theorem dX4_init_114 : decode cX4_init 114 = .ok (.aastore, 1) := by decide +kernel
theorem dX4_init_115 : decode cX4_init 115 = .ok (.iinc 2 1, 3) := by decide +kernel
theorem dX4_init_118 : decode cX4_init 118 = .ok (.goto (-26), 3) := by decide +kernel
theorem dX4_init_121 : decode cX4_init 121 = .ok (.return_, 1) := by decide +kernel
theorem dX4_copyOf_0 : decode cX4_copyOf 0 = .ok (.aload_n 0, 1) := by decide +kernel
theorem dX4_copyOf_1 : decode cX4_copyOf 1 = .ok (.getfield 14, 3) := by decide +kernel
theorem dX4_copyOf_4 : decode cX4_copyOf 4 = .ok (.aload_n 1, 1) := by decide +kernel
theorem dX4_copyOf_5 : decode cX4_copyOf 5 = .ok (.getfield 14, 3) := by decide +kernel
theorem dX4_copyOf_8 : decode cX4_copyOf 8 = .ok (.invokevirtual 43, 3) := by decide +kernel
theorem dX4_copyOf_11 : decode cX4_copyOf 11 = .ok (.aload_n 0, 1) := by decide +kernel
theorem dX4_copyOf_12 : decode cX4_copyOf 12 = .ok (.aload_n 1, 1) := by decide +kernel
theorem dX4_copyOf_13 : decode cX4_copyOf 13 = .ok (.getfield 20, 3) := by decide +kernel
theorem dX4_copyOf_16 : decode cX4_copyOf 16 = .ok (.putfield 20, 3) := by decide +kernel
theorem dX4_copyOf_19 : decode cX4_copyOf 19 = .ok (.iconst 0, 1) := by decide +kernel
theorem dX4_copyOf_20 : decode cX4_copyOf 20 = .ok (.istore_n 2, 1) := by decide +kernel
theorem dX4_copyOf_21 : decode cX4_copyOf 21 = .ok (.iload_n 2, 1) := by decide +kernel
theorem dX4_copyOf_22 : decode cX4_copyOf 22 = .ok (.iconst 4, 1) := by decide +kernel
theorem dX4_copyOf_23 : decode cX4_copyOf 23 = .ok (.if_icmp .ge 24, 3) := by decide +kernel
theorem dX4_copyOf_26 : decode cX4_copyOf 26 = .ok (.aload_n 0, 1) := by decide +kernel
theorem dX4_copyOf_27 : decode cX4_copyOf 27 = .ok (.getfield 24, 3) := by decide +kernel
theorem dX4_copyOf_30 : decode cX4_copyOf 30 = .ok (.iload_n 2, 1) := by decide +kernel
theorem dX4_copyOf_31 : decode cX4_copyOf 31 = .ok (.aaload, 1) := by decide +kernel
theorem dX4_copyOf_32 : decode cX4_copyOf 32 = .ok (.aload_n 1, 1) := by decide +kernel
theorem dX4_copyOf_33 : decode cX4_copyOf 33 = .ok (.getfield 24, 3) := by decide +kernel
theorem dX4_copyOf_36 : decode cX4_copyOf 36 = .ok (.iload_n 2, 1) := by decide +kernel
theorem dX4_copyOf_37 : decode cX4_copyOf 37 = .ok (.aaload, 1) := by decide +kernel
theorem dX4_copyOf_38 : decode cX4_copyOf 38 = .ok (.invokevirtual 43, 3) := by decide +kernel
theorem dX4_copyOf_41 : decode cX4_copyOf 41 = .ok (.iinc 2 1, 3) := by decide +kernel
theorem dX4_copyOf_44 : decode cX4_copyOf 44 = .ok (.goto (-23), 3) := by decide +kernel
theorem dX4_copyOf_47 : decode cX4_copyOf 47 = .ok (.aload_n 0, 1) := by decide +kernel
theorem dX4_copyOf_48 : decode cX4_copyOf 48 = .ok (.aload_n 1, 1) := by decide +kernel
theorem dX4_copyOf_49 : decode cX4_copyOf 49 = .ok (.getfield 34, 3) := by decide +kernel
theorem dX4_copyOf_52 : decode cX4_copyOf 52 = .ok (.putfield 34, 3) := by decide +kernel
theorem dX4_copyOf_55 : decode cX4_copyOf 55 = .ok (.iconst 0, 1) := by decide +kernel
theorem dX4_copyOf_56 : decode cX4_copyOf 56 = .ok (.istore_n 2, 1) := by decide +kernel
theorem dX4_copyOf_57 : decode cX4_copyOf 57 = .ok (.iload_n 2, 1) := by decide +kernel
theorem dX4_copyOf_58 : decode cX4_copyOf 58 = .ok (.aload_n 0, 1) := by decide +kernel
theorem dX4_copyOf_59 : decode cX4_copyOf 59 = .ok (.getfield 34, 3) := by decide +kernel
theorem dX4_copyOf_62 : decode cX4_copyOf 62 = .ok (.if_icmp .ge 29, 3) := by decide +kernel
theorem dX4_copyOf_65 : decode cX4_copyOf 65 = .ok (.iload_n 2, 1) := by decide +kernel
theorem dX4_copyOf_66 : decode cX4_copyOf 66 = .ok (.iconst 3, 1) := by decide +kernel
theorem dX4_copyOf_67 : decode cX4_copyOf 67 = .ok (.if_icmp .ge 24, 3) := by decide +kernel
theorem dX4_copyOf_70 : decode cX4_copyOf 70 = .ok (.aload_n 0, 1) := by decide +kernel
theorem dX4_copyOf_71 : decode cX4_copyOf 71 = .ok (.getfield 30, 3) := by decide +kernel
theorem dX4_copyOf_74 : decode cX4_copyOf 74 = .ok (.iload_n 2, 1) := by decide +kernel
theorem dX4_copyOf_75 : decode cX4_copyOf 75 = .ok (.aaload, 1) := by decide +kernel
theorem dX4_copyOf_76 : decode cX4_copyOf 76 = .ok (.aload_n 1, 1) := by decide +kernel
theorem dX4_copyOf_77 : decode cX4_copyOf 77 = .ok (.getfield 30, 3) := by decide +kernel
theorem dX4_copyOf_80 : decode cX4_copyOf 80 = .ok (.iload_n 2, 1) := by decide +kernel
theorem dX4_copyOf_81 : decode cX4_copyOf 81 = .ok (.aaload, 1) := by decide +kernel
theorem dX4_copyOf_82 : decode cX4_copyOf 82 = .ok (.invokevirtual 47, 3) := by decide +kernel
theorem dX4_copyOf_85 : decode cX4_copyOf 85 = .ok (.iinc 2 1, 3) := by decide +kernel
theorem dX4_copyOf_88 : decode cX4_copyOf 88 = .ok (.goto (-31), 3) := by decide +kernel
theorem dX4_copyOf_91 : decode cX4_copyOf 91 = .ok (.return_, 1) := by decide +kernel
theorem dX4_uppermost_0 : decode cX4_uppermost 0 = .ok (.aload_n 0, 1) := by decide +kernel
theorem dX4_uppermost_1 : decode cX4_uppermost 1 = .ok (.getfield 34, 3) := by decide +kernel
theorem dX4_uppermost_4 : decode cX4_uppermost 4 = .ok (.iconst 1, 1) := by decide +kernel
theorem dX4_uppermost_5 : decode cX4_uppermost 5 = .ok (.if_icmp .lt 15, 3) := by decide +kernel
theorem dX4_uppermost_8 : decode cX4_uppermost 8 = .ok (.aload_n 0, 1) := by decide +kernel
theorem dX4_uppermost_9 : decode cX4_uppermost 9 = .ok (.getfield 34, 3) := by decide +kernel
theorem dX4_uppermost_12 : decode cX4_uppermost 12 = .ok (.aload_n 0, 1) := by decide +kernel
theorem dX4_uppermost_13 : decode cX4_uppermost 13 = .ok (.getfield 30, 3) := by decide +kernel
theorem dX4_uppermost_16 : decode cX4_uppermost 16 = .ok (.arraylength, 1) := by decide +kernel
theorem dX4_uppermost_17 : decode cX4_uppermost 17 = .ok (.if_icmp .le 7, 3) := by decide +kernel
theorem dX4_uppermost_20 : decode cX4_uppermost 20 = .ok (.aconst_null, 1) := by decide +kernel
theorem dX4_uppermost_21 : decode cX4_uppermost 21 = .ok (.goto 14, 3) := by decide +kernel
theorem dX4_uppermost_24 : decode cX4_uppermost 24 = .ok (.aload_n 0, 1) := by decide +kernel
theorem dX4_uppermost_25 : decode cX4_uppermost 25 = .ok (.getfield 30, 3) := by decide +kernel
theorem dX4_uppermost_28 : decode cX4_uppermost 28 = .ok (.aload_n 0, 1) := by decide +kernel
theorem dX4_uppermost_29 : decode cX4_uppermost 29 = .ok (.getfield 34, 3) := by decide +kernel
theorem dX4_uppermost_32 : decode cX4_uppermost 32 = .ok (.iconst 1, 1) := by decide +kernel
theorem dX4_uppermost_33 : decode cX4_uppermost 33 = .ok (.isub, 1) := by decide +kernel
theorem dX4_uppermost_34 : decode cX4_uppermost 34 = .ok (.aaload, 1) := by decide +kernel
theorem dX4_uppermost_35 : decode cX4_uppermost 35 = .ok (.areturn, 1) := by decide +kernel
theorem dX4_openSession_0 : decode cX4_openSession 0 = .ok (.aload_n 0, 1) := by decide +kernel
theorem dX4_openSession_1 : decode cX4_openSession 1 = .ok (.getfield 34, 3) := by decide +kernel
theorem dX4_openSession_4 : decode cX4_openSession 4 = .ok (.ifCond .lt 15, 3) := by decide +kernel
theorem dX4_openSession_7 : decode cX4_openSession 7 = .ok (.aload_n 0, 1) := by decide +kernel
theorem dX4_openSession_8 : decode cX4_openSession 8 = .ok (.getfield 34, 3) := by decide +kernel
theorem dX4_openSession_11 : decode cX4_openSession 11 = .ok (.aload_n 0, 1) := by decide +kernel
theorem dX4_openSession_12 : decode cX4_openSession 12 = .ok (.getfield 30, 3) := by decide +kernel
theorem dX4_openSession_15 : decode cX4_openSession 15 = .ok (.arraylength, 1) := by decide +kernel
theorem dX4_openSession_16 : decode cX4_openSession 16 = .ok (.if_icmp .lt 5, 3) := by decide +kernel
theorem dX4_openSession_19 : decode cX4_openSession 19 = .ok (.iconst (-1), 1) := by decide +kernel
theorem dX4_openSession_20 : decode cX4_openSession 20 = .ok (.ireturn, 1) := by decide +kernel
theorem dX4_openSession_21 : decode cX4_openSession 21 = .ok (.aload_n 0, 1) := by decide +kernel
theorem dX4_openSession_22 : decode cX4_openSession 22 = .ok (.getfield 30, 3) := by decide +kernel
theorem dX4_openSession_25 : decode cX4_openSession 25 = .ok (.aload_n 0, 1) := by decide +kernel
theorem dX4_openSession_26 : decode cX4_openSession 26 = .ok (.getfield 34, 3) := by decide +kernel
theorem dX4_openSession_29 : decode cX4_openSession 29 = .ok (.aaload, 1) := by decide +kernel
theorem dX4_openSession_30 : decode cX4_openSession 30 = .ok (.astore_n 2, 1) := by decide +kernel
theorem dX4_openSession_31 : decode cX4_openSession 31 = .ok (.aload_n 0, 1) := by decide +kernel
theorem dX4_openSession_32 : decode cX4_openSession 32 = .ok (.dup, 1) := by decide +kernel
theorem dX4_openSession_33 : decode cX4_openSession 33 = .ok (.getfield 34, 3) := by decide +kernel
theorem dX4_openSession_36 : decode cX4_openSession 36 = .ok (.iconst 1, 1) := by decide +kernel
theorem dX4_openSession_37 : decode cX4_openSession 37 = .ok (.iadd, 1) := by decide +kernel
theorem dX4_openSession_38 : decode cX4_openSession 38 = .ok (.putfield 34, 3) := by decide +kernel
theorem dX4_openSession_41 : decode cX4_openSession 41 = .ok (.aload_n 2, 1) := by decide +kernel
theorem dX4_openSession_42 : decode cX4_openSession 42 = .ok (.aload_n 1, 1) := by decide +kernel
theorem dX4_openSession_43 : decode cX4_openSession 43 = .ok (.invokevirtual 50, 3) := by decide +kernel
theorem dX4_openSession_46 : decode cX4_openSession 46 = .ok (.aload_n 2, 1) := by decide +kernel
theorem dX4_openSession_47 : decode cX4_openSession 47 = .ok (.getfield 53, 3) := by decide +kernel
theorem dX4_openSession_50 : decode cX4_openSession 50 = .ok (.ireturn, 1) := by decide +kernel
theorem dX4_endUppermost_0 : decode cX4_endUppermost 0 = .ok (.aload_n 0, 1) := by decide +kernel
theorem dX4_endUppermost_1 : decode cX4_endUppermost 1 = .ok (.invokevirtual 56, 3) := by decide +kernel
theorem dX4_endUppermost_4 : decode cX4_endUppermost 4 = .ok (.astore_n 1, 1) := by decide +kernel
theorem dX4_endUppermost_5 : decode cX4_endUppermost 5 = .ok (.aload_n 1, 1) := by decide +kernel
theorem dX4_endUppermost_6 : decode cX4_endUppermost 6 = .ok (.ifnull 10, 3) := by decide +kernel
theorem dX4_endUppermost_9 : decode cX4_endUppermost 9 = .ok (.aload_n 0, 1) := by decide +kernel
theorem dX4_endUppermost_10 : decode cX4_endUppermost 10 = .ok (.invokevirtual 63, 3) := by decide +kernel
theorem dX4_endUppermost_13 : decode cX4_endUppermost 13 = .ok (.ifCond .ne 4, 3) := by decide +kernel
theorem dX4_endUppermost_16 : decode cX4_endUppermost 16 = .ok (.return_, 1) := by decide +kernel
theorem dX4_endUppermost_17 : decode cX4_endUppermost 17 = .ok (.aload_n 0, 1) := by decide +kernel
theorem dX4_endUppermost_18 : decode cX4_endUppermost 18 = .ok (.dup, 1) := by decide +kernel
theorem dX4_endUppermost_19 : decode cX4_endUppermost 19 = .ok (.getfield 34, 3) := by decide +kernel
theorem dX4_endUppermost_22 : decode cX4_endUppermost 22 = .ok (.iconst 1, 1) := by decide +kernel
theorem dX4_endUppermost_23 : decode cX4_endUppermost 23 = .ok (.isub, 1) := by decide +kernel
theorem dX4_endUppermost_24 : decode cX4_endUppermost 24 = .ok (.putfield 34, 3) := by decide +kernel
theorem dX4_endUppermost_27 : decode cX4_endUppermost 27 = .ok (.aload_n 0, 1) := by decide +kernel
theorem dX4_endUppermost_28 : decode cX4_endUppermost 28 = .ok (.invokevirtual 56, 3) := by decide +kernel
theorem dX4_endUppermost_31 : decode cX4_endUppermost 31 = .ok (.astore_n 2, 1) := by decide +kernel
theorem dX4_endUppermost_32 : decode cX4_endUppermost 32 = .ok (.aload_n 2, 1) := by decide +kernel
theorem dX4_endUppermost_33 : decode cX4_endUppermost 33 = .ok (.ifnull 9, 3) := by decide +kernel
theorem dX4_endUppermost_36 : decode cX4_endUppermost 36 = .ok (.aload_n 2, 1) := by decide +kernel
theorem dX4_endUppermost_37 : decode cX4_endUppermost 37 = .ok (.iconst 0, 1) := by decide +kernel
theorem dX4_endUppermost_38 : decode cX4_endUppermost 38 = .ok (.putfield 67, 3) := by decide +kernel
theorem dX4_endUppermost_41 : decode cX4_endUppermost 41 = .ok (.return_, 1) := by decide +kernel
theorem dX4_endUppermost_42 : decode cX4_endUppermost 42 = .ok (.aload_n 1, 1) := by decide +kernel
theorem dX4_endUppermost_43 : decode cX4_endUppermost 43 = .ok (.iconst 0, 1) := by decide +kernel
theorem dX4_endUppermost_44 : decode cX4_endUppermost 44 = .ok (.iconst 0, 1) := by decide +kernel
theorem dX4_endUppermost_45 : decode cX4_endUppermost 45 = .ok (.invokevirtual 71, 3) := by decide +kernel
theorem dX4_endUppermost_48 : decode cX4_endUppermost 48 = .ok (.astore_n 3, 1) := by decide +kernel
theorem dX4_endUppermost_49 : decode cX4_endUppermost 49 = .ok (.aload_n 0, 1) := by decide +kernel
theorem dX4_endUppermost_50 : decode cX4_endUppermost 50 = .ok (.getfield 20, 3) := by decide +kernel
theorem dX4_endUppermost_53 : decode cX4_endUppermost 53 = .ok (.aload_n 0, 1) := by decide +kernel
theorem dX4_endUppermost_54 : decode cX4_endUppermost 54 = .ok (.getfield 37, 3) := by decide +kernel
theorem dX4_endUppermost_57 : decode cX4_endUppermost 57 = .ok (.invokevirtual 75, 3) := by decide +kernel
theorem dX4_endUppermost_60 : decode cX4_endUppermost 60 = .ok (.iadd, 1) := by decide +kernel
theorem dX4_endUppermost_61 : decode cX4_endUppermost 61 = .ok (.aload_n 0, 1) := by decide +kernel
theorem dX4_endUppermost_62 : decode cX4_endUppermost 62 = .ok (.getfield 14, 3) := by decide +kernel
theorem dX4_endUppermost_65 : decode cX4_endUppermost 65 = .ok (.invokevirtual 75, 3) := by decide +kernel
theorem dX4_endUppermost_68 : decode cX4_endUppermost 68 = .ok (.isub, 1) := by decide +kernel
theorem dX4_endUppermost_69 : decode cX4_endUppermost 69 = .ok (.istore 4, 2) := by decide +kernel
theorem dX4_endUppermost_71 : decode cX4_endUppermost 71 = .ok (.aload_n 0, 1) := by decide +kernel
theorem dX4_endUppermost_72 : decode cX4_endUppermost 72 = .ok (.aload_n 3, 1) := by decide +kernel
theorem dX4_endUppermost_73 : decode cX4_endUppermost 73 = .ok (.ifnonnull 8, 3) := by decide +kernel
theorem dX4_endUppermost_76 : decode cX4_endUppermost 76 = .ok (.iload 4, 2) := by decide +kernel
theorem dX4_endUppermost_78 : decode cX4_endUppermost 78 = .ok (.goto 8, 3) := by decide +kernel
theorem dX4_endUppermost_81 : decode cX4_endUppermost 81 = .ok (.aload_n 1, 1) := by decide +kernel
theorem dX4_endUppermost_82 : decode cX4_endUppermost 82 = .ok (.aload_n 3, 1) := by decide +kernel
theorem dX4_endUppermost_83 : decode cX4_endUppermost 83 = .ok (.invokevirtual 79, 3) := by decide +kernel
theorem dX4_endUppermost_86 : decode cX4_endUppermost 86 = .ok (.putfield 20, 3) := by decide +kernel
theorem dX4_endUppermost_89 : decode cX4_endUppermost 89 = .ok (.aload_n 0, 1) := by decide +kernel
theorem dX4_endUppermost_90 : decode cX4_endUppermost 90 = .ok (.getfield 14, 3) := by decide +kernel
theorem dX4_endUppermost_93 : decode cX4_endUppermost 93 = .ok (.aload_n 0, 1) := by decide +kernel
theorem dX4_endUppermost_94 : decode cX4_endUppermost 94 = .ok (.getfield 37, 3) := by decide +kernel
theorem dX4_endUppermost_97 : decode cX4_endUppermost 97 = .ok (.invokevirtual 43, 3) := by decide +kernel
theorem dX4_endUppermost_100 : decode cX4_endUppermost 100 = .ok (.return_, 1) := by decide +kernel
theorem dX4_insertAtCaret_0 : decode cX4_insertAtCaret 0 = .ok (.aload_n 0, 1) := by decide +kernel
theorem dX4_insertAtCaret_1 : decode cX4_insertAtCaret 1 = .ok (.getfield 14, 3) := by decide +kernel
theorem dX4_insertAtCaret_4 : decode cX4_insertAtCaret 4 = .ok (.aload_n 0, 1) := by decide +kernel
theorem dX4_insertAtCaret_5 : decode cX4_insertAtCaret 5 = .ok (.getfield 20, 3) := by decide +kernel
theorem dX4_insertAtCaret_8 : decode cX4_insertAtCaret 8 = .ok (.iload_n 1, 1) := by decide +kernel
theorem dX4_insertAtCaret_9 : decode cX4_insertAtCaret 9 = .ok (.invokevirtual 83, 3) := by decide +kernel
theorem dX4_insertAtCaret_12 : decode cX4_insertAtCaret 12 = .ok (.aload_n 0, 1) := by decide +kernel
theorem dX4_insertAtCaret_13 : decode cX4_insertAtCaret 13 = .ok (.dup, 1) := by decide +kernel
theorem dX4_insertAtCaret_14 : decode cX4_insertAtCaret 14 = .ok (.getfield 20, 3) := by decide +kernel
theorem dX4_insertAtCaret_17 : decode cX4_insertAtCaret 17 = .ok (.iconst 1, 1) := by decide +kernel
theorem dX4_insertAtCaret_18 : decode cX4_insertAtCaret 18 = .ok (.iadd, 1) := by decide +kernel
theorem dX4_insertAtCaret_19 : decode cX4_insertAtCaret 19 = .ok (.putfield 20, 3) := by decide +kernel
theorem dX4_insertAtCaret_22 : decode cX4_insertAtCaret 22 = .ok (.return_, 1) := by decide +kernel
theorem dX4_settle_0 : decode cX4_settle 0 = .ok (.aload_n 0, 1) := by decide +kernel
theorem dX4_settle_1 : decode cX4_settle 1 = .ok (.getfield 34, 3) := by decide +kernel
theorem dX4_settle_4 : decode cX4_settle 4 = .ok (.aload_n 0, 1) := by decide +kernel
theorem dX4_settle_5 : decode cX4_settle 5 = .ok (.getfield 30, 3) := by decide +kernel
theorem dX4_settle_8 : decode cX4_settle 8 = .ok (.arraylength, 1) := by decide +kernel
theorem dX4_settle_9 : decode cX4_settle 9 = .ok (.invokestatic 90, 3) := by decide +kernel
theorem dX4_settle_12 : decode cX4_settle 12 = .ok (.iconst 1, 1) := by decide +kernel
theorem dX4_settle_13 : decode cX4_settle 13 = .ok (.isub, 1) := by decide +kernel
theorem dX4_settle_14 : decode cX4_settle 14 = .ok (.istore_n 1, 1) := by decide +kernel
theorem dX4_settle_15 : decode cX4_settle 15 = .ok (.iload_n 1, 1) := by decide +kernel
theorem dX4_settle_16 : decode cX4_settle 16 = .ok (.ifCond .le 73, 3) := by decide +kernel
theorem dX4_settle_19 : decode cX4_settle 19 = .ok (.aload_n 0, 1) := by decide +kernel
theorem dX4_settle_20 : decode cX4_settle 20 = .ok (.getfield 37, 3) := by decide +kernel
theorem dX4_settle_23 : decode cX4_settle 23 = .ok (.invokevirtual 99, 3) := by decide +kernel
theorem dX4_settle_26 : decode cX4_settle 26 = .ok (.aload_n 0, 1) := by decide +kernel
theorem dX4_settle_27 : decode cX4_settle 27 = .ok (.getfield 30, 3) := by decide +kernel
theorem dX4_settle_30 : decode cX4_settle 30 = .ok (.iload_n 1, 1) := by decide +kernel
theorem dX4_settle_31 : decode cX4_settle 31 = .ok (.aaload, 1) := by decide +kernel
theorem dX4_settle_32 : decode cX4_settle 32 = .ok (.aload_n 0, 1) := by decide +kernel
theorem dX4_settle_33 : decode cX4_settle 33 = .ok (.getfield 37, 3) := by decide +kernel
theorem dX4_settle_36 : decode cX4_settle 36 = .ok (.invokevirtual 102, 3) := by decide +kernel
theorem dX4_settle_39 : decode cX4_settle 39 = .ok (.aload_n 0, 1) := by decide +kernel
theorem dX4_settle_40 : decode cX4_settle 40 = .ok (.getfield 37, 3) := by decide +kernel
theorem dX4_settle_43 : decode cX4_settle 43 = .ok (.invokevirtual 75, 3) := by decide +kernel
theorem dX4_settle_46 : decode cX4_settle 46 = .ok (.sipush 240, 3) := by decide +kernel
theorem dX4_settle_49 : decode cX4_settle 49 = .ok (.if_icmp .le 5, 3) := by decide +kernel
theorem dX4_settle_52 : decode cX4_settle 52 = .ok (.iconst 0, 1) := by decide +kernel
theorem dX4_settle_53 : decode cX4_settle 53 = .ok (.ireturn, 1) := by decide +kernel
theorem dX4_settle_54 : decode cX4_settle 54 = .ok (.aload_n 0, 1) := by decide +kernel
theorem dX4_settle_55 : decode cX4_settle 55 = .ok (.getfield 30, 3) := by decide +kernel
theorem dX4_settle_58 : decode cX4_settle 58 = .ok (.iload_n 1, 1) := by decide +kernel
theorem dX4_settle_59 : decode cX4_settle 59 = .ok (.iconst 1, 1) := by decide +kernel
theorem dX4_settle_60 : decode cX4_settle 60 = .ok (.isub, 1) := by decide +kernel
theorem dX4_settle_61 : decode cX4_settle 61 = .ok (.aaload, 1) := by decide +kernel
theorem dX4_settle_62 : decode cX4_settle 62 = .ok (.astore_n 2, 1) := by decide +kernel
theorem dX4_settle_63 : decode cX4_settle 63 = .ok (.aload_n 2, 1) := by decide +kernel
theorem dX4_settle_64 : decode cX4_settle 64 = .ok (.aload_n 2, 1) := by decide +kernel
theorem dX4_settle_65 : decode cX4_settle 65 = .ok (.getfield 53, 3) := by decide +kernel
theorem dX4_settle_68 : decode cX4_settle 68 = .ok (.invokevirtual 105, 3) := by decide +kernel
theorem dX4_settle_71 : decode cX4_settle 71 = .ok (.aload_n 2, 1) := by decide +kernel
theorem dX4_settle_72 : decode cX4_settle 72 = .ok (.aload_n 2, 1) := by decide +kernel
theorem dX4_settle_73 : decode cX4_settle 73 = .ok (.getfield 53, 3) := by decide +kernel
theorem dX4_settle_76 : decode cX4_settle 76 = .ok (.aload_n 0, 1) := by decide +kernel
theorem dX4_settle_77 : decode cX4_settle 77 = .ok (.getfield 37, 3) := by decide +kernel
theorem dX4_settle_80 : decode cX4_settle 80 = .ok (.invokevirtual 108, 3) := by decide +kernel
theorem dX4_settle_83 : decode cX4_settle 83 = .ok (.iinc 1 (-1), 3) := by decide +kernel
theorem dX4_settle_86 : decode cX4_settle 86 = .ok (.goto (-71), 3) := by decide +kernel
theorem dX4_settle_89 : decode cX4_settle 89 = .ok (.aload_n 0, 1) := by decide +kernel
theorem dX4_settle_90 : decode cX4_settle 90 = .ok (.getfield 37, 3) := by decide +kernel
theorem dX4_settle_93 : decode cX4_settle 93 = .ok (.invokevirtual 99, 3) := by decide +kernel
theorem dX4_settle_96 : decode cX4_settle 96 = .ok (.aload_n 0, 1) := by decide +kernel
theorem dX4_settle_97 : decode cX4_settle 97 = .ok (.getfield 37, 3) := by decide +kernel
theorem dX4_settle_100 : decode cX4_settle 100 = .ok (.aload_n 0, 1) := by decide +kernel
theorem dX4_settle_101 : decode cX4_settle 101 = .ok (.getfield 14, 3) := by decide +kernel
theorem dX4_settle_104 : decode cX4_settle 104 = .ok (.iconst 0, 1) := by decide +kernel
theorem dX4_settle_105 : decode cX4_settle 105 = .ok (.aload_n 0, 1) := by decide +kernel
theorem dX4_settle_106 : decode cX4_settle 106 = .ok (.getfield 20, 3) := by decide +kernel
theorem dX4_settle_109 : decode cX4_settle 109 = .ok (.invokevirtual 112, 3) := by decide +kernel
theorem dX4_settle_112 : decode cX4_settle 112 = .ok (.aload_n 0, 1) := by decide +kernel
theorem dX4_settle_113 : decode cX4_settle 113 = .ok (.getfield 34, 3) := by decide +kernel
theorem dX4_settle_116 : decode cX4_settle 116 = .ok (.ifCond .le 16, 3) := by decide +kernel
theorem dX4_settle_119 : decode cX4_settle 119 = .ok (.aload_n 0, 1) := by decide +kernel
theorem dX4_settle_120 : decode cX4_settle 120 = .ok (.getfield 30, 3) := by decide +kernel
theorem dX4_settle_123 : decode cX4_settle 123 = .ok (.iconst 0, 1) := by decide +kernel
theorem dX4_settle_124 : decode cX4_settle 124 = .ok (.aaload, 1) := by decide +kernel
theorem dX4_settle_125 : decode cX4_settle 125 = .ok (.aload_n 0, 1) := by decide +kernel
theorem dX4_settle_126 : decode cX4_settle 126 = .ok (.getfield 37, 3) := by decide +kernel
theorem dX4_settle_129 : decode cX4_settle 129 = .ok (.invokevirtual 102, 3) := by decide +kernel
theorem dX4_settle_132 : decode cX4_settle 132 = .ok (.aload_n 0, 1) := by decide +kernel
theorem dX4_settle_133 : decode cX4_settle 133 = .ok (.getfield 37, 3) := by decide +kernel
theorem dX4_settle_136 : decode cX4_settle 136 = .ok (.aload_n 0, 1) := by decide +kernel
theorem dX4_settle_137 : decode cX4_settle 137 = .ok (.getfield 14, 3) := by decide +kernel
theorem dX4_settle_140 : decode cX4_settle 140 = .ok (.aload_n 0, 1) := by decide +kernel
theorem dX4_settle_141 : decode cX4_settle 141 = .ok (.getfield 20, 3) := by decide +kernel
theorem dX4_settle_144 : decode cX4_settle 144 = .ok (.aload_n 0, 1) := by decide +kernel
theorem dX4_settle_145 : decode cX4_settle 145 = .ok (.getfield 14, 3) := by decide +kernel
theorem dX4_settle_148 : decode cX4_settle 148 = .ok (.invokevirtual 75, 3) := by decide +kernel
theorem dX4_settle_151 : decode cX4_settle 151 = .ok (.invokevirtual 112, 3) := by decide +kernel
theorem dX4_settle_154 : decode cX4_settle 154 = .ok (.aload_n 0, 1) := by decide +kernel
theorem dX4_settle_155 : decode cX4_settle 155 = .ok (.getfield 37, 3) := by decide +kernel
theorem dX4_settle_158 : decode cX4_settle 158 = .ok (.invokevirtual 75, 3) := by decide +kernel
theorem dX4_settle_161 : decode cX4_settle 161 = .ok (.sipush 240, 3) := by decide +kernel
theorem dX4_settle_164 : decode cX4_settle 164 = .ok (.if_icmp .gt 7, 3) := by decide +kernel
theorem dX4_settle_167 : decode cX4_settle 167 = .ok (.iconst 1, 1) := by decide +kernel
theorem dX4_settle_168 : decode cX4_settle 168 = .ok (.goto 4, 3) := by decide +kernel
theorem dX4_settle_171 : decode cX4_settle 171 = .ok (.iconst 0, 1) := by decide +kernel
theorem dX4_settle_172 : decode cX4_settle 172 = .ok (.ireturn, 1) := by decide +kernel
theorem dX5_init_0 : decode cX5_init 0 = .ok (.aload_n 0, 1) := by decide +kernel
theorem dX5_init_1 : decode cX5_init 1 = .ok (.invokespecial 3, 3) := by decide +kernel
theorem dX5_init_4 : decode cX5_init 4 = .ok (.aload_n 0, 1) := by decide +kernel
theorem dX5_init_5 : decode cX5_init 5 = .ok (.new 9, 3) := by decide +kernel
theorem dX5_init_8 : decode cX5_init 8 = .ok (.dup, 1) := by decide +kernel
theorem dX5_init_9 : decode cX5_init 9 = .ok (.sipush 1024, 3) := by decide +kernel
theorem dX5_init_12 : decode cX5_init 12 = .ok (.invokespecial 11, 3) := by decide +kernel
theorem dX5_init_15 : decode cX5_init 15 = .ok (.putfield 14, 3) := by decide +kernel
theorem dX5_init_18 : decode cX5_init 18 = .ok (.aload_n 0, 1) := by decide +kernel
theorem dX5_init_19 : decode cX5_init 19 = .ok (.bipush 16, 2) := by decide +kernel
theorem dX5_init_21 : decode cX5_init 21 = .ok (.anewarray 20, 3) := by decide +kernel
theorem dX5_init_24 : decode cX5_init 24 = .ok (.putfield 22, 3) := by decide +kernel
theorem dX5_init_27 : decode cX5_init 27 = .ok (.aload_n 0, 1) := by decide +kernel
theorem dX5_init_28 : decode cX5_init 28 = .ok (.iconst 0, 1) := by decide +kernel
theorem dX5_init_29 : decode cX5_init 29 = .ok (.putfield 26, 3) := by decide +kernel
theorem dX5_init_32 : decode cX5_init 32 = .ok (.aload_n 0, 1) := by decide +kernel
theorem dX5_init_33 : decode cX5_init 33 = .ok (.bipush 10, 2) := by decide +kernel
theorem dX5_init_35 : decode cX5_init 35 = .ok (.anewarray 20, 3) := by decide +kernel
theorem dX5_init_38 : decode cX5_init 38 = .ok (.putfield 30, 3) := by decide +kernel
theorem dX5_init_41 : decode cX5_init 41 = .ok (.return_, 1) := by decide +kernel
theorem dX5_size_0 : decode cX5_size 0 = .ok (.aload_n 0, 1) := by decide +kernel
theorem dX5_size_1 : decode cX5_size 1 = .ok (.getfield 26, 3) := by decide +kernel
theorem dX5_size_4 : decode cX5_size 4 = .ok (.ireturn, 1) := by decide +kernel
theorem dX5_settleMasters_0 : decode cX5_settleMasters 0 = .ok (.iconst 0, 1) := by decide +kernel
theorem dX5_settleMasters_1 : decode cX5_settleMasters 1 = .ok (.istore_n 1, 1) := by decide +kernel
theorem dX5_settleMasters_2 : decode cX5_settleMasters 2 = .ok (.iload_n 1, 1) := by decide +kernel
theorem dX5_settleMasters_3 : decode cX5_settleMasters 3 = .ok (.aload_n 0, 1) := by decide +kernel
theorem dX5_settleMasters_4 : decode cX5_settleMasters 4 = .ok (.getfield 26, 3) := by decide +kernel
theorem dX5_settleMasters_7 : decode cX5_settleMasters 7 = .ok (.if_icmp .ge 39, 3) := by decide +kernel
theorem dX5_settleMasters_10 : decode cX5_settleMasters 10 = .ok (.aload_n 0, 1) := by decide +kernel
theorem dX5_settleMasters_11 : decode cX5_settleMasters 11 = .ok (.getfield 22, 3) := by decide +kernel
theorem dX5_settleMasters_14 : decode cX5_settleMasters 14 = .ok (.iload_n 1, 1) := by decide +kernel
theorem dX5_settleMasters_15 : decode cX5_settleMasters 15 = .ok (.aaload, 1) := by decide +kernel
theorem dX5_settleMasters_16 : decode cX5_settleMasters 16 = .ok (.astore_n 2, 1) := by decide +kernel
theorem dX5_settleMasters_17 : decode cX5_settleMasters 17 = .ok (.aload_n 2, 1) := by decide +kernel
theorem dX5_settleMasters_18 : decode cX5_settleMasters 18 = .ok (.ifnull 22, 3) := by decide +kernel
theorem dX5_settleMasters_21 : decode cX5_settleMasters 21 = .ok (.aload_n 2, 1) := by decide +kernel
theorem dX5_settleMasters_22 : decode cX5_settleMasters 22 = .ok (.getfield 58, 3) := by decide +kernel
theorem dX5_settleMasters_25 : decode cX5_settleMasters 25 = .ok (.ifCond .ne 10, 3) := by decide +kernel
theorem dX5_settleMasters_28 : decode cX5_settleMasters 28 = .ok (.aload_n 2, 1) := by decide +kernel
theorem dX5_settleMasters_29 : decode cX5_settleMasters 29 = .ok (.getfield 62, 3) := by decide +kernel
theorem dX5_settleMasters_32 : decode cX5_settleMasters 32 = .ok (.ifCond .le 8, 3) := by decide +kernel
theorem dX5_settleMasters_35 : decode cX5_settleMasters 35 = .ok (.aload_n 0, 1) := by decide +kernel
theorem dX5_settleMasters_36 : decode cX5_settleMasters 36 = .ok (.aload_n 2, 1) := by decide +kernel
theorem dX5_settleMasters_37 : decode cX5_settleMasters 37 = .ok (.invokevirtual 65, 3) := by decide +kernel
theorem dX5_settleMasters_40 : decode cX5_settleMasters 40 = .ok (.iinc 1 1, 3) := by decide +kernel
theorem dX5_settleMasters_43 : decode cX5_settleMasters 43 = .ok (.goto (-41), 3) := by decide +kernel
theorem dX5_settleMasters_46 : decode cX5_settleMasters 46 = .ok (.iconst 0, 1) := by decide +kernel
theorem dX5_settleMasters_47 : decode cX5_settleMasters 47 = .ok (.istore_n 1, 1) := by decide +kernel
theorem dX5_settleMasters_48 : decode cX5_settleMasters 48 = .ok (.iload_n 1, 1) := by decide +kernel
theorem dX5_settleMasters_49 : decode cX5_settleMasters 49 = .ok (.aload_n 0, 1) := by decide +kernel
theorem dX5_settleMasters_50 : decode cX5_settleMasters 50 = .ok (.getfield 26, 3) := by decide +kernel
theorem dX5_settleMasters_53 : decode cX5_settleMasters 53 = .ok (.if_icmp .ge 32, 3) := by decide +kernel
theorem dX5_settleMasters_56 : decode cX5_settleMasters 56 = .ok (.aload_n 0, 1) := by decide +kernel
theorem dX5_settleMasters_57 : decode cX5_settleMasters 57 = .ok (.getfield 22, 3) := by decide +kernel
theorem dX5_settleMasters_60 : decode cX5_settleMasters 60 = .ok (.iload_n 1, 1) := by decide +kernel
theorem dX5_settleMasters_61 : decode cX5_settleMasters 61 = .ok (.aaload, 1) := by decide +kernel
theorem dX5_settleMasters_62 : decode cX5_settleMasters 62 = .ok (.astore_n 2, 1) := by decide +kernel
theorem dX5_settleMasters_63 : decode cX5_settleMasters 63 = .ok (.aload_n 2, 1) := by decide +kernel
theorem dX5_settleMasters_64 : decode cX5_settleMasters 64 = .ok (.ifnull 15, 3) := by decide +kernel
theorem dX5_settleMasters_67 : decode cX5_settleMasters 67 = .ok (.aload_n 2, 1) := by decide +kernel
theorem dX5_settleMasters_68 : decode cX5_settleMasters 68 = .ok (.getfield 69, 3) := by decide +kernel
theorem dX5_settleMasters_71 : decode cX5_settleMasters 71 = .ok (.ifCond .ne 8, 3) := by decide +kernel
theorem dX5_settleMasters_74 : decode cX5_settleMasters 74 = .ok (.aload_n 0, 1) := by decide +kernel
theorem dX5_settleMasters_75 : decode cX5_settleMasters 75 = .ok (.aload_n 2, 1) := by decide +kernel
theorem dX5_settleMasters_76 : decode cX5_settleMasters 76 = .ok (.invokevirtual 65, 3) := by decide +kernel
theorem dX5_settleMasters_79 : decode cX5_settleMasters 79 = .ok (.iinc 1 1, 3) := by decide +kernel
theorem dX5_settleMasters_82 : decode cX5_settleMasters 82 = .ok (.goto (-34), 3) := by decide +kernel
theorem dX5_settleMasters_85 : decode cX5_settleMasters 85 = .ok (.return_, 1) := by decide +kernel
theorem dX6_init_0 : decode cX6_init 0 = .ok (.aload_n 0, 1) := by decide +kernel
theorem dX6_init_1 : decode cX6_init 1 = .ok (.invokespecial 3, 3) := by decide +kernel
theorem dX6_init_4 : decode cX6_init 4 = .ok (.aload_n 0, 1) := by decide +kernel
theorem dX6_init_5 : decode cX6_init 5 = .ok (.new 9, 3) := by decide +kernel
theorem dX6_init_8 : decode cX6_init 8 = .ok (.dup, 1) := by decide +kernel
theorem dX6_init_9 : decode cX6_init 9 = .ok (.bipush 120, 2) := by decide +kernel
theorem dX6_init_11 : decode cX6_init 11 = .ok (.invokespecial 11, 3) := by decide +kernel
theorem dX6_init_14 : decode cX6_init 14 = .ok (.putfield 14, 3) := by decide +kernel
theorem dX6_init_17 : decode cX6_init 17 = .ok (.aload_n 0, 1) := by decide +kernel
theorem dX6_init_18 : decode cX6_init 18 = .ok (.new 9, 3) := by decide +kernel
theorem dX6_init_21 : decode cX6_init 21 = .ok (.dup, 1) := by decide +kernel
theorem dX6_init_22 : decode cX6_init 22 = .ok (.ldc 18, 2) := by decide +kernel
theorem dX6_init_24 : decode cX6_init 24 = .ok (.invokespecial 11, 3) := by decide +kernel
theorem dX6_init_27 : decode cX6_init 27 = .ok (.putfield 19, 3) := by decide +kernel
theorem dX6_init_30 : decode cX6_init 30 = .ok (.aload_n 0, 1) := by decide +kernel
theorem dX6_init_31 : decode cX6_init 31 = .ok (.bipush 8, 2) := by decide +kernel
theorem dX6_init_33 : decode cX6_init 33 = .ok (.anewarray 22, 3) := by decide +kernel
theorem dX6_init_36 : decode cX6_init 36 = .ok (.putfield 24, 3) := by decide +kernel
theorem dX6_init_39 : decode cX6_init 39 = .ok (.aload_n 0, 1) := by decide +kernel
theorem dX6_init_40 : decode cX6_init 40 = .ok (.iconst 0, 1) := by decide +kernel
theorem dX6_init_41 : decode cX6_init 41 = .ok (.putfield 28, 3) := by decide +kernel
theorem dX6_init_44 : decode cX6_init 44 = .ok (.aload_n 0, 1) := by decide +kernel
theorem dX6_init_45 : decode cX6_init 45 = .ok (.iconst 0, 1) := by decide +kernel
theorem dX6_init_46 : decode cX6_init 46 = .ok (.putfield 32, 3) := by decide +kernel
theorem dX6_init_49 : decode cX6_init 49 = .ok (.aload_n 0, 1) := by decide +kernel
theorem dX6_init_50 : decode cX6_init 50 = .ok (.iconst 0, 1) := by decide +kernel
theorem dX6_init_51 : decode cX6_init 51 = .ok (.putfield 35, 3) := by decide +kernel
theorem dX6_init_54 : decode cX6_init 54 = .ok (.aload_n 0, 1) := by decide +kernel
theorem dX6_init_55 : decode cX6_init 55 = .ok (.iconst 0, 1) := by decide +kernel
theorem dX6_init_56 : decode cX6_init 56 = .ok (.putfield 38, 3) := by decide +kernel
theorem dX6_init_59 : decode cX6_init 59 = .ok (.new 41, 3) := by decide +kernel
theorem dX6_init_62 : decode cX6_init 62 = .ok (.dup, 1) := by decide +kernel
theorem dX6_init_63 : decode cX6_init 63 = .ok (.invokespecial 43, 3) := by decide +kernel
theorem dX6_init_66 : decode cX6_init 66 = .ok (.astore_n 1, 1) := by decide +kernel
theorem dX6_init_67 : decode cX6_init 67 = .ok (.aload_n 0, 1) := by decide +kernel
theorem dX6_init_68 : decode cX6_init 68 = .ok (.new 22, 3) := by decide +kernel
theorem dX6_init_71 : decode cX6_init 71 = .ok (.dup, 1) := by decide +kernel
theorem dX6_init_72 : decode cX6_init 72 = .ok (.aload_n 1, 1) := by decide +kernel
theorem dX6_init_73 : decode cX6_init 73 = .ok (.invokespecial 44, 3) := by decide +kernel
theorem dX6_init_76 : decode cX6_init 76 = .ok (.putfield 47, 3) := by decide +kernel
theorem dX6_init_79 : decode cX6_init 79 = .ok (.aload_n 0, 1) := by decide +kernel
theorem dX6_init_80 : decode cX6_init 80 = .ok (.new 22, 3) := by decide +kernel
theorem dX6_init_83 : decode cX6_init 83 = .ok (.dup, 1) := by decide +kernel
theorem dX6_init_84 : decode cX6_init 84 = .ok (.aload_n 1, 1) := by decide +kernel
theorem dX6_init_85 : decode cX6_init 85 = .ok (.invokespecial 44, 3) := by decide +kernel
theorem dX6_init_88 : decode cX6_init 88 = .ok (.putfield 51, 3) := by decide +kernel
theorem dX6_init_91 : decode cX6_init 91 = .ok (.iconst 0, 1) := by decide +kernel
theorem dX6_init_92 : decode cX6_init 92 = .ok (.istore_n 2, 1) := by decide +kernel
theorem dX6_init_93 : decode cX6_init 93 = .ok (.iload_n 2, 1) := by decide +kernel
theorem dX6_init_94 : decode cX6_init 94 = .ok (.aload_n 0, 1) := by decide +kernel
theorem dX6_init_95 : decode cX6_init 95 = .ok (.getfield 24, 3) := by decide +kernel
theorem dX6_init_98 : decode cX6_init 98 = .ok (.arraylength, 1) := by decide +kernel
theorem dX6_init_99 : decode cX6_init 99 = .ok (.if_icmp .ge 23, 3) := by decide +kernel
theorem dX6_init_102 : decode cX6_init 102 = .ok (.aload_n 0, 1) := by decide +kernel
theorem dX6_init_103 : decode cX6_init 103 = .ok (.getfield 24, 3) := by decide +kernel
theorem dX6_init_106 : decode cX6_init 106 = .ok (.iload_n 2, 1) := by decide +kernel
theorem dX6_init_107 : decode cX6_init 107 = .ok (.new 22, 3) := by decide +kernel
theorem dX6_init_110 : decode cX6_init 110 = .ok (.dup, 1) := by decide +kernel
theorem dX6_init_111 : decode cX6_init 111 = .ok (.aload_n 1, 1) := by decide +kernel
theorem dX6_init_112 : decode cX6_init 112 = .ok (.invokespecial 44, 3) := by decide +kernel
theorem dX6_init_115 : decode cX6_init 115 = .ok (.aastore, 1) := by decide +kernel
theorem dX6_init_116 : decode cX6_init 116 = .ok (.iinc 2 1, 3) := by decide +kernel
theorem dX6_init_119 : decode cX6_init 119 = .ok (.goto (-26), 3) := by decide +kernel
theorem dX6_init_122 : decode cX6_init 122 = .ok (.return_, 1) := by decide +kernel
theorem dX6_type_0 : decode cX6_type 0 = .ok (.iload_n 1, 1) := by decide +kernel
theorem dX6_type_1 : decode cX6_type 1 = .ok (.ifCond .lt 9, 3) := by decide +kernel
theorem dX6_type_4 : decode cX6_type 4 = .ok (.iload_n 1, 1) := by decide +kernel
theorem dX6_type_5 : decode cX6_type 5 = .ok (.bipush 127, 2) := by decide +kernel
theorem dX6_type_7 : decode cX6_type 7 = .ok (.if_icmp .le 10, 3) := by decide +kernel
theorem dX6_type_10 : decode cX6_type 10 = .ok (.aload_n 0, 1) := by decide +kernel
theorem dX6_type_11 : decode cX6_type 11 = .ok (.bipush (-2), 2) := by decide +kernel
theorem dX6_type_13 : decode cX6_type 13 = .ok (.invokevirtual 54, 3) := by decide +kernel
theorem dX6_type_16 : decode cX6_type 16 = .ok (.ireturn, 1) := by decide +kernel
theorem dX6_type_17 : decode cX6_type 17 = .ok (.aload_n 0, 1) := by decide +kernel
theorem dX6_type_18 : decode cX6_type 18 = .ok (.getfield 14, 3) := by decide +kernel
theorem dX6_type_21 : decode cX6_type 21 = .ok (.invokevirtual 58, 3) := by decide +kernel
theorem dX6_type_24 : decode cX6_type 24 = .ok (.bipush 120, 2) := by decide +kernel
theorem dX6_type_26 : decode cX6_type 26 = .ok (.if_icmp .lt 10, 3) := by decide +kernel
theorem dX6_type_29 : decode cX6_type 29 = .ok (.aload_n 0, 1) := by decide +kernel
theorem dX6_type_30 : decode cX6_type 30 = .ok (.bipush (-4), 2) := by decide +kernel
theorem dX6_type_32 : decode cX6_type 32 = .ok (.invokevirtual 54, 3) := by decide +kernel
theorem dX6_type_35 : decode cX6_type 35 = .ok (.ireturn, 1) := by decide +kernel
theorem dX6_type_36 : decode cX6_type 36 = .ok (.aload_n 0, 1) := by decide +kernel
theorem dX6_type_37 : decode cX6_type 37 = .ok (.getfield 14, 3) := by decide +kernel
theorem dX6_type_40 : decode cX6_type 40 = .ok (.iload_n 1, 1) := by decide +kernel
theorem dX6_type_41 : decode cX6_type 41 = .ok (.invokevirtual 62, 3) := by decide +kernel
theorem dX6_type_44 : decode cX6_type 44 = .ok (.aload_n 0, 1) := by decide +kernel
theorem dX6_type_45 : decode cX6_type 45 = .ok (.getfield 14, 3) := by decide +kernel
theorem dX6_type_48 : decode cX6_type 48 = .ok (.invokevirtual 58, 3) := by decide +kernel
theorem dX6_type_51 : decode cX6_type 51 = .ok (.ireturn, 1) := by decide +kernel
theorem dX6_clear_0 : decode cX6_clear 0 = .ok (.aload_n 0, 1) := by decide +kernel
theorem dX6_clear_1 : decode cX6_clear 1 = .ok (.getfield 14, 3) := by decide +kernel
theorem dX6_clear_4 : decode cX6_clear 4 = .ok (.invokevirtual 58, 3) := by decide +kernel
theorem dX6_clear_7 : decode cX6_clear 7 = .ok (.istore_n 1, 1) := by decide +kernel
theorem dX6_clear_8 : decode cX6_clear 8 = .ok (.aload_n 0, 1) := by decide +kernel
theorem dX6_clear_9 : decode cX6_clear 9 = .ok (.getfield 14, 3) := by decide +kernel
theorem dX6_clear_12 : decode cX6_clear 12 = .ok (.invokevirtual 65, 3) := by decide +kernel
theorem dX6_clear_15 : decode cX6_clear 15 = .ok (.iload_n 1, 1) := by decide +kernel
theorem dX6_clear_16 : decode cX6_clear 16 = .ok (.ireturn, 1) := by decide +kernel
theorem dX6_variable_0 : decode cX6_variable 0 = .ok (.iload_n 1, 1) := by decide +kernel
theorem dX6_variable_1 : decode cX6_variable 1 = .ok (.invokestatic 68, 3) := by decide +kernel
theorem dX6_variable_4 : decode cX6_variable 4 = .ok (.ifCond .eq 13, 3) := by decide +kernel
theorem dX6_variable_7 : decode cX6_variable 7 = .ok (.aload_n 0, 1) := by decide +kernel
theorem dX6_variable_8 : decode cX6_variable 8 = .ok (.getfield 14, 3) := by decide +kernel
theorem dX6_variable_11 : decode cX6_variable 11 = .ok (.invokestatic 72, 3) := by decide +kernel
theorem dX6_variable_14 : decode cX6_variable 14 = .ok (.ifCond .ne 10, 3) := by decide +kernel
theorem dX6_variable_17 : decode cX6_variable 17 = .ok (.aload_n 0, 1) := by decide +kernel
theorem dX6_variable_18 : decode cX6_variable 18 = .ok (.bipush (-2), 2) := by decide +kernel
theorem dX6_variable_20 : decode cX6_variable 20 = .ok (.invokevirtual 54, 3) := by decide +kernel
theorem dX6_variable_23 : decode cX6_variable 23 = .ok (.ireturn, 1) := by decide +kernel
theorem dX6_variable_24 : decode cX6_variable 24 = .ok (.aload_n 0, 1) := by decide +kernel
theorem dX6_variable_25 : decode cX6_variable 25 = .ok (.getfield 51, 3) := by decide +kernel
theorem dX6_variable_28 : decode cX6_variable 28 = .ok (.aload_n 0, 1) := by decide +kernel
theorem dX6_variable_29 : decode cX6_variable 29 = .ok (.getfield 47, 3) := by decide +kernel
theorem dX6_variable_32 : decode cX6_variable 32 = .ok (.invokevirtual 76, 3) := by decide +kernel
theorem dX6_variable_35 : decode cX6_variable 35 = .ok (.aload_n 0, 1) := by decide +kernel
theorem dX6_variable_36 : decode cX6_variable 36 = .ok (.getfield 51, 3) := by decide +kernel
theorem dX6_variable_39 : decode cX6_variable 39 = .ok (.getfield 80, 3) := by decide +kernel
theorem dX6_variable_42 : decode cX6_variable 42 = .ok (.iload_n 1, 1) := by decide +kernel
theorem dX6_variable_43 : decode cX6_variable 43 = .ok (.aaload, 1) := by decide +kernel
theorem dX6_variable_44 : decode cX6_variable 44 = .ok (.aload_n 0, 1) := by decide +kernel
theorem dX6_variable_45 : decode cX6_variable 45 = .ok (.getfield 14, 3) := by decide +kernel
theorem dX6_variable_48 : decode cX6_variable 48 = .ok (.invokevirtual 84, 3) := by decide +kernel
theorem dX6_variable_51 : decode cX6_variable 51 = .ok (.aload_n 0, 1) := by decide +kernel
theorem dX6_variable_52 : decode cX6_variable 52 = .ok (.invokevirtual 87, 3) := by decide +kernel
theorem dX6_variable_55 : decode cX6_variable 55 = .ok (.ifCond .eq 13, 3) := by decide +kernel
theorem dX6_variable_58 : decode cX6_variable 58 = .ok (.aload_n 0, 1) := by decide +kernel
theorem dX6_variable_59 : decode cX6_variable 59 = .ok (.getfield 14, 3) := by decide +kernel
theorem dX6_variable_62 : decode cX6_variable 62 = .ok (.invokevirtual 58, 3) := by decide +kernel
theorem dX6_variable_65 : decode cX6_variable 65 = .ok (.goto 9, 3) := by decide +kernel
theorem dX6_variable_68 : decode cX6_variable 68 = .ok (.aload_n 0, 1) := by decide +kernel
theorem dX6_variable_69 : decode cX6_variable 69 = .ok (.bipush (-4), 2) := by decide +kernel
theorem dX6_variable_71 : decode cX6_variable 71 = .ok (.invokevirtual 54, 3) := by decide +kernel
theorem dX6_variable_74 : decode cX6_variable 74 = .ok (.ireturn, 1) := by decide +kernel
theorem dX6_begins_0 : decode cX6_begins 0 = .ok (.new 91, 3) := by decide +kernel
theorem dX6_begins_3 : decode cX6_begins 3 = .ok (.dup, 1) := by decide +kernel
theorem dX6_begins_4 : decode cX6_begins 4 = .ok (.aload_n 0, 1) := by decide +kernel
theorem dX6_begins_5 : decode cX6_begins 5 = .ok (.getfield 14, 3) := by decide +kernel
theorem dX6_begins_8 : decode cX6_begins 8 = .ok (.aload_n 0, 1) := by decide +kernel
theorem dX6_begins_9 : decode cX6_begins 9 = .ok (.getfield 47, 3) := by decide +kernel
theorem dX6_begins_12 : decode cX6_begins 12 = .ok (.getfield 80, 3) := by decide +kernel
theorem dX6_begins_15 : decode cX6_begins 15 = .ok (.invokespecial 93, 3) := by decide +kernel
theorem dX6_begins_18 : decode cX6_begins 18 = .ok (.astore_n 1, 1) := by decide +kernel
theorem dX6_begins_19 : decode cX6_begins 19 = .ok (.aload_n 1, 1) := by decide +kernel
theorem dX6_begins_20 : decode cX6_begins 20 = .ok (.invokevirtual 96, 3) := by decide +kernel
theorem dX6_begins_23 : decode cX6_begins 23 = .ok (.istore_n 2, 1) := by decide +kernel
theorem dX6_begins_24 : decode cX6_begins 24 = .ok (.iload_n 2, 1) := by decide +kernel
theorem dX6_begins_25 : decode cX6_begins 25 = .ok (.iconst (-1), 1) := by decide +kernel
theorem dX6_begins_26 : decode cX6_begins 26 = .ok (.if_icmp .eq 8, 3) := by decide +kernel
theorem dX6_begins_29 : decode cX6_begins 29 = .ok (.bipush (-10), 2) := by decide +kernel
theorem dX6_begins_31 : decode cX6_begins 31 = .ok (.iload_n 2, 1) := by decide +kernel
theorem dX6_begins_32 : decode cX6_begins 32 = .ok (.isub, 1) := by decide +kernel
theorem dX6_begins_33 : decode cX6_begins 33 = .ok (.ireturn, 1) := by decide +kernel
theorem dX6_begins_34 : decode cX6_begins 34 = .ok (.aload_n 0, 1) := by decide +kernel
theorem dX6_begins_35 : decode cX6_begins 35 = .ok (.getfield 47, 3) := by decide +kernel
theorem dX6_begins_38 : decode cX6_begins 38 = .ok (.getfield 99, 3) := by decide +kernel
theorem dX6_begins_41 : decode cX6_begins 41 = .ok (.iconst 3, 1) := by decide +kernel
theorem dX6_begins_42 : decode cX6_begins 42 = .ok (.if_icmp .lt 10, 3) := by decide +kernel
theorem dX6_begins_45 : decode cX6_begins 45 = .ok (.aload_n 0, 1) := by decide +kernel
theorem dX6_begins_46 : decode cX6_begins 46 = .ok (.bipush (-3), 2) := by decide +kernel
theorem dX6_begins_48 : decode cX6_begins 48 = .ok (.invokevirtual 54, 3) := by decide +kernel
theorem dX6_begins_51 : decode cX6_begins 51 = .ok (.ireturn, 1) := by decide +kernel
theorem dX6_begins_52 : decode cX6_begins 52 = .ok (.aload_n 0, 1) := by decide +kernel
theorem dX6_begins_53 : decode cX6_begins 53 = .ok (.getfield 51, 3) := by decide +kernel
theorem dX6_begins_56 : decode cX6_begins 56 = .ok (.aload_n 0, 1) := by decide +kernel
theorem dX6_begins_57 : decode cX6_begins 57 = .ok (.getfield 47, 3) := by decide +kernel
theorem dX6_begins_60 : decode cX6_begins 60 = .ok (.invokevirtual 76, 3) := by decide +kernel
theorem dX6_begins_63 : decode cX6_begins 63 = .ok (.aload_n 0, 1) := by decide +kernel
theorem dX6_begins_64 : decode cX6_begins 64 = .ok (.getfield 51, 3) := by decide +kernel
theorem dX6_begins_67 : decode cX6_begins 67 = .ok (.aload_n 1, 1) := by decide +kernel
theorem dX6_begins_68 : decode cX6_begins 68 = .ok (.getfield 102, 3) := by decide +kernel
theorem dX6_begins_71 : decode cX6_begins 71 = .ok (.invokevirtual 106, 3) := by decide +kernel
theorem dX6_begins_74 : decode cX6_begins 74 = .ok (.istore_n 3, 1) := by decide +kernel
theorem dX6_begins_75 : decode cX6_begins 75 = .ok (.aload_n 0, 1) := by decide +kernel
theorem dX6_begins_76 : decode cX6_begins 76 = .ok (.getfield 51, 3) := by decide +kernel
theorem dX6_begins_79 : decode cX6_begins 79 = .ok (.invokevirtual 110, 3) := by decide +kernel
theorem dX6_begins_82 : decode cX6_begins 82 = .ok (.ifCond .ne 10, 3) := by decide +kernel
theorem dX6_begins_85 : decode cX6_begins 85 = .ok (.aload_n 0, 1) := by decide +kernel
theorem dX6_begins_86 : decode cX6_begins 86 = .ok (.bipush (-4), 2) := by decide +kernel
theorem dX6_begins_88 : decode cX6_begins 88 = .ok (.invokevirtual 54, 3) := by decide +kernel
theorem dX6_begins_91 : decode cX6_begins 91 = .ok (.ireturn, 1) := by decide +kernel
theorem dX6_begins_92 : decode cX6_begins 92 = .ok (.iload_n 3, 1) := by decide +kernel
theorem dX6_begins_93 : decode cX6_begins 93 = .ok (.iconst (-1), 1) := by decide +kernel
theorem dX6_begins_94 : decode cX6_begins 94 = .ok (.if_icmp .ne 10, 3) := by decide +kernel
theorem dX6_begins_97 : decode cX6_begins 97 = .ok (.aload_n 0, 1) := by decide +kernel
theorem dX6_begins_98 : decode cX6_begins 98 = .ok (.getfield 51, 3) := by decide +kernel
theorem dX6_begins_101 : decode cX6_begins 101 = .ok (.invokevirtual 113, 3) := by decide +kernel
theorem dX6_begins_104 : decode cX6_begins 104 = .ok (.aload_n 0, 1) := by decide +kernel
theorem dX6_begins_105 : decode cX6_begins 105 = .ok (.invokevirtual 87, 3) := by decide +kernel
theorem dX6_begins_108 : decode cX6_begins 108 = .ok (.ifCond .ne 10, 3) := by decide +kernel
theorem dX6_begins_111 : decode cX6_begins 111 = .ok (.aload_n 0, 1) := by decide +kernel
theorem dX6_begins_112 : decode cX6_begins 112 = .ok (.bipush (-4), 2) := by decide +kernel
theorem dX6_begins_114 : decode cX6_begins 114 = .ok (.invokevirtual 54, 3) := by decide +kernel
theorem dX6_begins_117 : decode cX6_begins 117 = .ok (.ireturn, 1) := by decide +kernel
theorem dX6_begins_118 : decode cX6_begins 118 = .ok (.iload_n 3, 1) := by decide +kernel
theorem dX6_begins_119 : decode cX6_begins 119 = .ok (.iconst (-1), 1) := by decide +kernel
theorem dX6_begins_120 : decode cX6_begins 120 = .ok (.if_icmp .ne 8, 3) := by decide +kernel
theorem dX6_begins_123 : decode cX6_begins 123 = .ok (.bipush (-5), 2) := by decide +kernel
theorem dX6_begins_125 : decode cX6_begins 125 = .ok (.goto 4, 3) := by decide +kernel
theorem dX6_begins_128 : decode cX6_begins 128 = .ok (.iload_n 3, 1) := by decide +kernel
theorem dX6_begins_129 : decode cX6_begins 129 = .ok (.ireturn, 1) := by decide +kernel
theorem dX6_key_0 : decode cX6_key 0 = .ok (.iload_n 1, 1) := by decide +kernel
theorem dX6_key_1 : decode cX6_key 1 = .ok (.invokestatic 116, 3) := by decide +kernel
theorem dX6_key_4 : decode cX6_key 4 = .ok (.ifCond .ne 10, 3) := by decide +kernel
theorem dX6_key_7 : decode cX6_key 7 = .ok (.aload_n 0, 1) := by decide +kernel
theorem dX6_key_8 : decode cX6_key 8 = .ok (.bipush (-2), 2) := by decide +kernel
theorem dX6_key_10 : decode cX6_key 10 = .ok (.invokevirtual 54, 3) := by decide +kernel
theorem dX6_key_13 : decode cX6_key 13 = .ok (.ireturn, 1) := by decide +kernel
theorem dX6_key_14 : decode cX6_key 14 = .ok (.aload_n 0, 1) := by decide +kernel
theorem dX6_key_15 : decode cX6_key 15 = .ok (.getfield 51, 3) := by decide +kernel
theorem dX6_key_18 : decode cX6_key 18 = .ok (.aload_n 0, 1) := by decide +kernel
theorem dX6_key_19 : decode cX6_key 19 = .ok (.getfield 47, 3) := by decide +kernel
theorem dX6_key_22 : decode cX6_key 22 = .ok (.invokevirtual 76, 3) := by decide +kernel
theorem dX6_key_25 : decode cX6_key 25 = .ok (.aload_n 0, 1) := by decide +kernel
theorem dX6_key_26 : decode cX6_key 26 = .ok (.getfield 51, 3) := by decide +kernel
theorem dX6_key_29 : decode cX6_key 29 = .ok (.invokevirtual 119, 3) := by decide +kernel
theorem dX6_key_32 : decode cX6_key 32 = .ok (.astore_n 2, 1) := by decide +kernel
theorem dX6_key_33 : decode cX6_key 33 = .ok (.aload_n 2, 1) := by decide +kernel
theorem dX6_key_34 : decode cX6_key 34 = .ok (.ifnonnull 14, 3) := by decide +kernel
theorem dX6_key_37 : decode cX6_key 37 = .ok (.aload_n 0, 1) := by decide +kernel
theorem dX6_key_38 : decode cX6_key 38 = .ok (.getfield 51, 3) := by decide +kernel
theorem dX6_key_41 : decode cX6_key 41 = .ok (.iload_n 1, 1) := by decide +kernel
theorem dX6_key_42 : decode cX6_key 42 = .ok (.invokevirtual 123, 3) := by decide +kernel
theorem dX6_key_45 : decode cX6_key 45 = .ok (.goto 8, 3) := by decide +kernel
theorem dX6_key_48 : decode cX6_key 48 = .ok (.aload_n 2, 1) := by decide +kernel
theorem dX6_key_49 : decode cX6_key 49 = .ok (.iload_n 1, 1) := by decide +kernel
theorem dX6_key_50 : decode cX6_key 50 = .ok (.invokevirtual 126, 3) := by decide +kernel
theorem dX6_key_53 : decode cX6_key 53 = .ok (.aload_n 0, 1) := by decide +kernel
theorem dX6_key_54 : decode cX6_key 54 = .ok (.invokevirtual 87, 3) := by decide +kernel
theorem dX6_key_57 : decode cX6_key 57 = .ok (.ifCond .eq 16, 3) := by decide +kernel
theorem dX6_key_60 : decode cX6_key 60 = .ok (.aload_n 0, 1) := by decide +kernel
theorem dX6_key_61 : decode cX6_key 61 = .ok (.getfield 47, 3) := by decide +kernel
theorem dX6_key_64 : decode cX6_key 64 = .ok (.getfield 131, 3) := by decide +kernel
theorem dX6_key_67 : decode cX6_key 67 = .ok (.invokevirtual 58, 3) := by decide +kernel
theorem dX6_key_70 : decode cX6_key 70 = .ok (.goto 9, 3) := by decide +kernel
theorem dX6_key_73 : decode cX6_key 73 = .ok (.aload_n 0, 1) := by decide +kernel
theorem dX6_key_74 : decode cX6_key 74 = .ok (.bipush (-4), 2) := by decide +kernel
theorem dX6_key_76 : decode cX6_key 76 = .ok (.invokevirtual 54, 3) := by decide +kernel
theorem dX6_key_79 : decode cX6_key 79 = .ok (.ireturn, 1) := by decide +kernel
theorem dX6_rubs_0 : decode cX6_rubs 0 = .ok (.aload_n 0, 1) := by decide +kernel
theorem dX6_rubs_1 : decode cX6_rubs 1 = .ok (.getfield 47, 3) := by decide +kernel
theorem dX6_rubs_4 : decode cX6_rubs 4 = .ok (.invokevirtual 119, 3) := by decide +kernel
theorem dX6_rubs_7 : decode cX6_rubs 7 = .ok (.astore_n 1, 1) := by decide +kernel
theorem dX6_rubs_8 : decode cX6_rubs 8 = .ok (.aload_n 1, 1) := by decide +kernel
theorem dX6_rubs_9 : decode cX6_rubs 9 = .ok (.ifnonnull 16, 3) := by decide +kernel
theorem dX6_rubs_12 : decode cX6_rubs 12 = .ok (.aload_n 0, 1) := by decide +kernel
theorem dX6_rubs_13 : decode cX6_rubs 13 = .ok (.getfield 47, 3) := by decide +kernel
theorem dX6_rubs_16 : decode cX6_rubs 16 = .ok (.getfield 134, 3) := by decide +kernel
theorem dX6_rubs_19 : decode cX6_rubs 19 = .ok (.ifCond .ne 28, 3) := by decide +kernel
theorem dX6_rubs_22 : decode cX6_rubs 22 = .ok (.goto 18, 3) := by decide +kernel
theorem dX6_rubs_25 : decode cX6_rubs 25 = .ok (.aload_n 0, 1) := by decide +kernel
theorem dX6_rubs_26 : decode cX6_rubs 26 = .ok (.aload_n 1, 1) := by decide +kernel
theorem dX6_rubs_27 : decode cX6_rubs 27 = .ok (.aload_n 1, 1) := by decide +kernel
theorem dX6_rubs_28 : decode cX6_rubs 28 = .ok (.getfield 137, 3) := by decide +kernel
theorem dX6_rubs_31 : decode cX6_rubs 31 = .ok (.invokevirtual 140, 3) := by decide +kernel
theorem dX6_rubs_34 : decode cX6_rubs 34 = .ok (.invokevirtual 58, 3) := by decide +kernel
theorem dX6_rubs_37 : decode cX6_rubs 37 = .ok (.ifCond .ne 10, 3) := by decide +kernel
theorem dX6_rubs_40 : decode cX6_rubs 40 = .ok (.aload_n 0, 1) := by decide +kernel
theorem dX6_rubs_41 : decode cX6_rubs 41 = .ok (.bipush (-3), 2) := by decide +kernel
theorem dX6_rubs_43 : decode cX6_rubs 43 = .ok (.invokevirtual 54, 3) := by decide +kernel
theorem dX6_rubs_46 : decode cX6_rubs 46 = .ok (.ireturn, 1) := by decide +kernel
theorem dX6_rubs_47 : decode cX6_rubs 47 = .ok (.aload_n 0, 1) := by decide +kernel
theorem dX6_rubs_48 : decode cX6_rubs 48 = .ok (.getfield 51, 3) := by decide +kernel
theorem dX6_rubs_51 : decode cX6_rubs 51 = .ok (.aload_n 0, 1) := by decide +kernel
theorem dX6_rubs_52 : decode cX6_rubs 52 = .ok (.getfield 47, 3) := by decide +kernel
theorem dX6_rubs_55 : decode cX6_rubs 55 = .ok (.invokevirtual 76, 3) := by decide +kernel
theorem dX6_rubs_58 : decode cX6_rubs 58 = .ok (.aload_n 0, 1) := by decide +kernel
theorem dX6_rubs_59 : decode cX6_rubs 59 = .ok (.getfield 51, 3) := by decide +kernel
theorem dX6_rubs_62 : decode cX6_rubs 62 = .ok (.invokevirtual 119, 3) := by decide +kernel
theorem dX6_rubs_65 : decode cX6_rubs 65 = .ok (.astore_n 1, 1) := by decide +kernel
theorem dX6_rubs_66 : decode cX6_rubs 66 = .ok (.aload_n 1, 1) := by decide +kernel
theorem dX6_rubs_67 : decode cX6_rubs 67 = .ok (.ifnonnull 23, 3) := by decide +kernel
theorem dX6_rubs_70 : decode cX6_rubs 70 = .ok (.aload_n 0, 1) := by decide +kernel
theorem dX6_rubs_71 : decode cX6_rubs 71 = .ok (.getfield 51, 3) := by decide +kernel
theorem dX6_rubs_74 : decode cX6_rubs 74 = .ok (.aload_n 0, 1) := by decide +kernel
theorem dX6_rubs_75 : decode cX6_rubs 75 = .ok (.getfield 51, 3) := by decide +kernel
theorem dX6_rubs_78 : decode cX6_rubs 78 = .ok (.getfield 134, 3) := by decide +kernel
theorem dX6_rubs_81 : decode cX6_rubs 81 = .ok (.iconst 1, 1) := by decide +kernel
theorem dX6_rubs_82 : decode cX6_rubs 82 = .ok (.isub, 1) := by decide +kernel
theorem dX6_rubs_83 : decode cX6_rubs 83 = .ok (.iconst 1, 1) := by decide +kernel
theorem dX6_rubs_84 : decode cX6_rubs 84 = .ok (.invokevirtual 144, 3) := by decide +kernel
theorem dX6_rubs_87 : decode cX6_rubs 87 = .ok (.goto 7, 3) := by decide +kernel
theorem dX6_rubs_90 : decode cX6_rubs 90 = .ok (.aload_n 1, 1) := by decide +kernel
theorem dX6_rubs_91 : decode cX6_rubs 91 = .ok (.invokevirtual 148, 3) := by decide +kernel
theorem dX6_rubs_94 : decode cX6_rubs 94 = .ok (.aload_n 0, 1) := by decide +kernel
theorem dX6_rubs_95 : decode cX6_rubs 95 = .ok (.invokevirtual 87, 3) := by decide +kernel
theorem dX6_rubs_98 : decode cX6_rubs 98 = .ok (.ifCond .eq 16, 3) := by decide +kernel
theorem dX6_rubs_101 : decode cX6_rubs 101 = .ok (.aload_n 0, 1) := by decide +kernel
theorem dX6_rubs_102 : decode cX6_rubs 102 = .ok (.getfield 47, 3) := by decide +kernel
theorem dX6_rubs_105 : decode cX6_rubs 105 = .ok (.getfield 131, 3) := by decide +kernel
theorem dX6_rubs_108 : decode cX6_rubs 108 = .ok (.invokevirtual 58, 3) := by decide +kernel
theorem dX6_rubs_111 : decode cX6_rubs 111 = .ok (.goto 9, 3) := by decide +kernel
theorem dX6_rubs_114 : decode cX6_rubs 114 = .ok (.aload_n 0, 1) := by decide +kernel
theorem dX6_rubs_115 : decode cX6_rubs 115 = .ok (.bipush (-4), 2) := by decide +kernel
theorem dX6_rubs_117 : decode cX6_rubs 117 = .ok (.invokevirtual 54, 3) := by decide +kernel
theorem dX6_rubs_120 : decode cX6_rubs 120 = .ok (.ireturn, 1) := by decide +kernel
theorem dX6_nexts_0 : decode cX6_nexts 0 = .ok (.aload_n 0, 1) := by decide +kernel
theorem dX6_nexts_1 : decode cX6_nexts 1 = .ok (.getfield 47, 3) := by decide +kernel
theorem dX6_nexts_4 : decode cX6_nexts 4 = .ok (.invokevirtual 119, 3) := by decide +kernel
theorem dX6_nexts_7 : decode cX6_nexts 7 = .ok (.astore_n 1, 1) := by decide +kernel
theorem dX6_nexts_8 : decode cX6_nexts 8 = .ok (.aload_n 1, 1) := by decide +kernel
theorem dX6_nexts_9 : decode cX6_nexts 9 = .ok (.ifnonnull 10, 3) := by decide +kernel
theorem dX6_nexts_12 : decode cX6_nexts 12 = .ok (.aload_n 0, 1) := by decide +kernel
theorem dX6_nexts_13 : decode cX6_nexts 13 = .ok (.bipush (-3), 2) := by decide +kernel
theorem dX6_nexts_15 : decode cX6_nexts 15 = .ok (.invokevirtual 54, 3) := by decide +kernel
theorem dX6_nexts_18 : decode cX6_nexts 18 = .ok (.ireturn, 1) := by decide +kernel
theorem dX6_nexts_19 : decode cX6_nexts 19 = .ok (.aload_n 1, 1) := by decide +kernel
theorem dX6_nexts_20 : decode cX6_nexts 20 = .ok (.aload_n 1, 1) := by decide +kernel
theorem dX6_nexts_21 : decode cX6_nexts 21 = .ok (.getfield 137, 3) := by decide +kernel
theorem dX6_nexts_24 : decode cX6_nexts 24 = .ok (.invokevirtual 151, 3) := by decide +kernel
theorem dX6_nexts_27 : decode cX6_nexts 27 = .ok (.istore_n 2, 1) := by decide +kernel
theorem dX6_nexts_28 : decode cX6_nexts 28 = .ok (.aload_n 0, 1) := by decide +kernel
theorem dX6_nexts_29 : decode cX6_nexts 29 = .ok (.getfield 51, 3) := by decide +kernel
theorem dX6_nexts_32 : decode cX6_nexts 32 = .ok (.aload_n 0, 1) := by decide +kernel
theorem dX6_nexts_33 : decode cX6_nexts 33 = .ok (.getfield 47, 3) := by decide +kernel
theorem dX6_nexts_36 : decode cX6_nexts 36 = .ok (.invokevirtual 76, 3) := by decide +kernel
theorem dX6_nexts_39 : decode cX6_nexts 39 = .ok (.iload_n 2, 1) := by decide +kernel
theorem dX6_nexts_40 : decode cX6_nexts 40 = .ok (.iconst (-1), 1) := by decide +kernel
theorem dX6_nexts_41 : decode cX6_nexts 41 = .ok (.if_icmp .ne 29, 3) := by decide +kernel
theorem dX6_nexts_44 : decode cX6_nexts 44 = .ok (.aload_n 0, 1) := by decide +kernel
theorem dX6_nexts_45 : decode cX6_nexts 45 = .ok (.getfield 51, 3) := by decide +kernel
theorem dX6_nexts_48 : decode cX6_nexts 48 = .ok (.invokevirtual 113, 3) := by decide +kernel
theorem dX6_nexts_51 : decode cX6_nexts 51 = .ok (.aload_n 0, 1) := by decide +kernel
theorem dX6_nexts_52 : decode cX6_nexts 52 = .ok (.invokevirtual 87, 3) := by decide +kernel
theorem dX6_nexts_55 : decode cX6_nexts 55 = .ok (.ifCond .eq 8, 3) := by decide +kernel
theorem dX6_nexts_58 : decode cX6_nexts 58 = .ok (.bipush (-5), 2) := by decide +kernel
theorem dX6_nexts_60 : decode cX6_nexts 60 = .ok (.goto 9, 3) := by decide +kernel
theorem dX6_nexts_63 : decode cX6_nexts 63 = .ok (.aload_n 0, 1) := by decide +kernel
theorem dX6_nexts_64 : decode cX6_nexts 64 = .ok (.bipush (-4), 2) := by decide +kernel
theorem dX6_nexts_66 : decode cX6_nexts 66 = .ok (.invokevirtual 54, 3) := by decide +kernel
theorem dX6_nexts_69 : decode cX6_nexts 69 = .ok (.ireturn, 1) := by decide +kernel
theorem dX6_nexts_70 : decode cX6_nexts 70 = .ok (.aload_n 0, 1) := by decide +kernel
theorem dX6_nexts_71 : decode cX6_nexts 71 = .ok (.getfield 51, 3) := by decide +kernel
theorem dX6_nexts_74 : decode cX6_nexts 74 = .ok (.iload_n 2, 1) := by decide +kernel
theorem dX6_nexts_75 : decode cX6_nexts 75 = .ok (.invokevirtual 154, 3) := by decide +kernel
theorem dX6_nexts_78 : decode cX6_nexts 78 = .ok (.aload_n 0, 1) := by decide +kernel
theorem dX6_nexts_79 : decode cX6_nexts 79 = .ok (.invokevirtual 87, 3) := by decide +kernel
theorem dX6_nexts_82 : decode cX6_nexts 82 = .ok (.ifCond .eq 7, 3) := by decide +kernel
theorem dX6_nexts_85 : decode cX6_nexts 85 = .ok (.iload_n 2, 1) := by decide +kernel
theorem dX6_nexts_86 : decode cX6_nexts 86 = .ok (.goto 9, 3) := by decide +kernel
theorem dX6_nexts_89 : decode cX6_nexts 89 = .ok (.aload_n 0, 1) := by decide +kernel
theorem dX6_nexts_90 : decode cX6_nexts 90 = .ok (.bipush (-4), 2) := by decide +kernel
theorem dX6_nexts_92 : decode cX6_nexts 92 = .ok (.invokevirtual 54, 3) := by decide +kernel
theorem dX6_nexts_95 : decode cX6_nexts 95 = .ok (.ireturn, 1) := by decide +kernel
theorem dX6_prevs_0 : decode cX6_prevs 0 = .ok (.aload_n 0, 1) := by decide +kernel
theorem dX6_prevs_1 : decode cX6_prevs 1 = .ok (.getfield 47, 3) := by decide +kernel
theorem dX6_prevs_4 : decode cX6_prevs 4 = .ok (.invokevirtual 119, 3) := by decide +kernel
theorem dX6_prevs_7 : decode cX6_prevs 7 = .ok (.astore_n 1, 1) := by decide +kernel
theorem dX6_prevs_8 : decode cX6_prevs 8 = .ok (.aload_n 1, 1) := by decide +kernel
theorem dX6_prevs_9 : decode cX6_prevs 9 = .ok (.ifnonnull 7, 3) := by decide +kernel
theorem dX6_prevs_12 : decode cX6_prevs 12 = .ok (.iconst (-1), 1) := by decide +kernel
theorem dX6_prevs_13 : decode cX6_prevs 13 = .ok (.goto 11, 3) := by decide +kernel
theorem dX6_prevs_16 : decode cX6_prevs 16 = .ok (.aload_n 1, 1) := by decide +kernel
theorem dX6_prevs_17 : decode cX6_prevs 17 = .ok (.aload_n 1, 1) := by decide +kernel
theorem dX6_prevs_18 : decode cX6_prevs 18 = .ok (.getfield 137, 3) := by decide +kernel
theorem dX6_prevs_21 : decode cX6_prevs 21 = .ok (.invokevirtual 157, 3) := by decide +kernel
theorem dX6_prevs_24 : decode cX6_prevs 24 = .ok (.istore_n 2, 1) := by decide +kernel
theorem dX6_prevs_25 : decode cX6_prevs 25 = .ok (.iload_n 2, 1) := by decide +kernel
theorem dX6_prevs_26 : decode cX6_prevs 26 = .ok (.iconst (-1), 1) := by decide +kernel
theorem dX6_prevs_27 : decode cX6_prevs 27 = .ok (.if_icmp .ne 10, 3) := by decide +kernel
theorem dX6_prevs_30 : decode cX6_prevs 30 = .ok (.aload_n 0, 1) := by decide +kernel
theorem dX6_prevs_31 : decode cX6_prevs 31 = .ok (.bipush (-3), 2) := by decide +kernel
theorem dX6_prevs_33 : decode cX6_prevs 33 = .ok (.invokevirtual 54, 3) := by decide +kernel
theorem dX6_prevs_36 : decode cX6_prevs 36 = .ok (.ireturn, 1) := by decide +kernel
theorem dX6_prevs_37 : decode cX6_prevs 37 = .ok (.aload_n 0, 1) := by decide +kernel
theorem dX6_prevs_38 : decode cX6_prevs 38 = .ok (.getfield 51, 3) := by decide +kernel
theorem dX6_prevs_41 : decode cX6_prevs 41 = .ok (.aload_n 0, 1) := by decide +kernel
theorem dX6_prevs_42 : decode cX6_prevs 42 = .ok (.getfield 47, 3) := by decide +kernel
theorem dX6_prevs_45 : decode cX6_prevs 45 = .ok (.invokevirtual 76, 3) := by decide +kernel
theorem dX6_prevs_48 : decode cX6_prevs 48 = .ok (.aload_n 0, 1) := by decide +kernel
theorem dX6_prevs_49 : decode cX6_prevs 49 = .ok (.getfield 51, 3) := by decide +kernel
theorem dX6_prevs_52 : decode cX6_prevs 52 = .ok (.iload_n 2, 1) := by decide +kernel
theorem dX6_prevs_53 : decode cX6_prevs 53 = .ok (.invokevirtual 154, 3) := by decide +kernel
theorem dX6_prevs_56 : decode cX6_prevs 56 = .ok (.aload_n 0, 1) := by decide +kernel
theorem dX6_prevs_57 : decode cX6_prevs 57 = .ok (.invokevirtual 87, 3) := by decide +kernel
theorem dX6_prevs_60 : decode cX6_prevs 60 = .ok (.ifCond .eq 7, 3) := by decide +kernel
theorem dX6_prevs_63 : decode cX6_prevs 63 = .ok (.iload_n 2, 1) := by decide +kernel
theorem dX6_prevs_64 : decode cX6_prevs 64 = .ok (.goto 9, 3) := by decide +kernel
theorem dX6_prevs_67 : decode cX6_prevs 67 = .ok (.aload_n 0, 1) := by decide +kernel
theorem dX6_prevs_68 : decode cX6_prevs 68 = .ok (.bipush (-4), 2) := by decide +kernel
theorem dX6_prevs_70 : decode cX6_prevs 70 = .ok (.invokevirtual 54, 3) := by decide +kernel
theorem dX6_prevs_73 : decode cX6_prevs 73 = .ok (.ireturn, 1) := by decide +kernel
theorem dX6_picks_0 : decode cX6_picks 0 = .ok (.iload_n 1, 1) := by decide +kernel
theorem dX6_picks_1 : decode cX6_picks 1 = .ok (.ifCond .ge 10, 3) := by decide +kernel
theorem dX6_picks_4 : decode cX6_picks 4 = .ok (.aload_n 0, 1) := by decide +kernel
theorem dX6_picks_5 : decode cX6_picks 5 = .ok (.bipush (-2), 2) := by decide +kernel
theorem dX6_picks_7 : decode cX6_picks 7 = .ok (.invokevirtual 54, 3) := by decide +kernel
theorem dX6_picks_10 : decode cX6_picks 10 = .ok (.ireturn, 1) := by decide +kernel
theorem dX6_picks_11 : decode cX6_picks 11 = .ok (.aload_n 0, 1) := by decide +kernel
theorem dX6_picks_12 : decode cX6_picks 12 = .ok (.getfield 47, 3) := by decide +kernel
theorem dX6_picks_15 : decode cX6_picks 15 = .ok (.invokevirtual 119, 3) := by decide +kernel
theorem dX6_picks_18 : decode cX6_picks 18 = .ok (.astore_n 2, 1) := by decide +kernel
theorem dX6_picks_19 : decode cX6_picks 19 = .ok (.aload_n 2, 1) := by decide +kernel
theorem dX6_picks_20 : decode cX6_picks 20 = .ok (.ifnull 15, 3) := by decide +kernel
theorem dX6_picks_23 : decode cX6_picks 23 = .ok (.iload_n 1, 1) := by decide +kernel
theorem dX6_picks_24 : decode cX6_picks 24 = .ok (.aload_n 2, 1) := by decide +kernel
theorem dX6_picks_25 : decode cX6_picks 25 = .ok (.aload_n 2, 1) := by decide +kernel
theorem dX6_picks_26 : decode cX6_picks 26 = .ok (.getfield 137, 3) := by decide +kernel
theorem dX6_picks_29 : decode cX6_picks 29 = .ok (.invokevirtual 160, 3) := by decide +kernel
theorem dX6_picks_32 : decode cX6_picks 32 = .ok (.if_icmp .lt 10, 3) := by decide +kernel
theorem dX6_picks_35 : decode cX6_picks 35 = .ok (.aload_n 0, 1) := by decide +kernel
theorem dX6_picks_36 : decode cX6_picks 36 = .ok (.bipush (-3), 2) := by decide +kernel
theorem dX6_picks_38 : decode cX6_picks 38 = .ok (.invokevirtual 54, 3) := by decide +kernel
theorem dX6_picks_41 : decode cX6_picks 41 = .ok (.ireturn, 1) := by decide +kernel
theorem dX6_picks_42 : decode cX6_picks 42 = .ok (.aload_n 0, 1) := by decide +kernel
theorem dX6_picks_43 : decode cX6_picks 43 = .ok (.getfield 51, 3) := by decide +kernel
theorem dX6_picks_46 : decode cX6_picks 46 = .ok (.aload_n 0, 1) := by decide +kernel
theorem dX6_picks_47 : decode cX6_picks 47 = .ok (.getfield 47, 3) := by decide +kernel
theorem dX6_picks_50 : decode cX6_picks 50 = .ok (.invokevirtual 76, 3) := by decide +kernel
theorem dX6_picks_53 : decode cX6_picks 53 = .ok (.aload_n 0, 1) := by decide +kernel
theorem dX6_picks_54 : decode cX6_picks 54 = .ok (.getfield 51, 3) := by decide +kernel
theorem dX6_picks_57 : decode cX6_picks 57 = .ok (.invokevirtual 119, 3) := by decide +kernel
theorem dX6_picks_60 : decode cX6_picks 60 = .ok (.astore_n 2, 1) := by decide +kernel
theorem dX6_picks_61 : decode cX6_picks 61 = .ok (.aload_n 2, 1) := by decide +kernel
theorem dX6_picks_62 : decode cX6_picks 62 = .ok (.ifnull 8, 3) := by decide +kernel
theorem dX6_picks_65 : decode cX6_picks 65 = .ok (.aload_n 2, 1) := by decide +kernel
theorem dX6_picks_66 : decode cX6_picks 66 = .ok (.iload_n 1, 1) := by decide +kernel
theorem dX6_picks_67 : decode cX6_picks 67 = .ok (.invokevirtual 163, 3) := by decide +kernel
theorem dX6_picks_70 : decode cX6_picks 70 = .ok (.aload_n 0, 1) := by decide +kernel
theorem dX6_picks_71 : decode cX6_picks 71 = .ok (.invokevirtual 87, 3) := by decide +kernel
theorem dX6_picks_74 : decode cX6_picks 74 = .ok (.ifCond .eq 16, 3) := by decide +kernel
theorem dX6_picks_77 : decode cX6_picks 77 = .ok (.aload_n 0, 1) := by decide +kernel
theorem dX6_picks_78 : decode cX6_picks 78 = .ok (.getfield 47, 3) := by decide +kernel
theorem dX6_picks_81 : decode cX6_picks 81 = .ok (.getfield 131, 3) := by decide +kernel
theorem dX6_picks_84 : decode cX6_picks 84 = .ok (.invokevirtual 58, 3) := by decide +kernel
theorem dX6_picks_87 : decode cX6_picks 87 = .ok (.goto 9, 3) := by decide +kernel
theorem dX6_picks_90 : decode cX6_picks 90 = .ok (.aload_n 0, 1) := by decide +kernel
theorem dX6_picks_91 : decode cX6_picks 91 = .ok (.bipush (-4), 2) := by decide +kernel
theorem dX6_picks_93 : decode cX6_picks 93 = .ok (.invokevirtual 54, 3) := by decide +kernel
theorem dX6_picks_96 : decode cX6_picks 96 = .ok (.ireturn, 1) := by decide +kernel
theorem dX6_ends_0 : decode cX6_ends 0 = .ok (.aload_n 0, 1) := by decide +kernel
theorem dX6_ends_1 : decode cX6_ends 1 = .ok (.getfield 47, 3) := by decide +kernel
theorem dX6_ends_4 : decode cX6_ends 4 = .ok (.getfield 99, 3) := by decide +kernel
theorem dX6_ends_7 : decode cX6_ends 7 = .ok (.ifCond .ne 10, 3) := by decide +kernel
theorem dX6_ends_10 : decode cX6_ends 10 = .ok (.aload_n 0, 1) := by decide +kernel
theorem dX6_ends_11 : decode cX6_ends 11 = .ok (.bipush (-3), 2) := by decide +kernel
theorem dX6_ends_13 : decode cX6_ends 13 = .ok (.invokevirtual 54, 3) := by decide +kernel
theorem dX6_ends_16 : decode cX6_ends 16 = .ok (.ireturn, 1) := by decide +kernel
theorem dX6_ends_17 : decode cX6_ends 17 = .ok (.aload_n 0, 1) := by decide +kernel
theorem dX6_ends_18 : decode cX6_ends 18 = .ok (.getfield 51, 3) := by decide +kernel
theorem dX6_ends_21 : decode cX6_ends 21 = .ok (.aload_n 0, 1) := by decide +kernel
theorem dX6_ends_22 : decode cX6_ends 22 = .ok (.getfield 47, 3) := by decide +kernel
theorem dX6_ends_25 : decode cX6_ends 25 = .ok (.invokevirtual 76, 3) := by decide +kernel
theorem dX6_ends_28 : decode cX6_ends 28 = .ok (.aload_n 0, 1) := by decide +kernel
theorem dX6_ends_29 : decode cX6_ends 29 = .ok (.getfield 51, 3) := by decide +kernel
theorem dX6_ends_32 : decode cX6_ends 32 = .ok (.invokevirtual 113, 3) := by decide +kernel
theorem dX6_ends_35 : decode cX6_ends 35 = .ok (.aload_n 0, 1) := by decide +kernel
theorem dX6_ends_36 : decode cX6_ends 36 = .ok (.invokevirtual 87, 3) := by decide +kernel
theorem dX6_ends_39 : decode cX6_ends 39 = .ok (.ifCond .eq 13, 3) := by decide +kernel
theorem dX6_ends_42 : decode cX6_ends 42 = .ok (.aload_n 0, 1) := by decide +kernel
theorem dX6_ends_43 : decode cX6_ends 43 = .ok (.getfield 47, 3) := by decide +kernel
theorem dX6_ends_46 : decode cX6_ends 46 = .ok (.getfield 99, 3) := by decide +kernel
theorem dX6_ends_49 : decode cX6_ends 49 = .ok (.goto 9, 3) := by decide +kernel
theorem dX6_ends_52 : decode cX6_ends 52 = .ok (.aload_n 0, 1) := by decide +kernel
theorem dX6_ends_53 : decode cX6_ends 53 = .ok (.bipush (-4), 2) := by decide +kernel
theorem dX6_ends_55 : decode cX6_ends 55 = .ok (.invokevirtual 54, 3) := by decide +kernel
theorem dX6_ends_58 : decode cX6_ends 58 = .ok (.ireturn, 1) := by decide +kernel
theorem dX6_caret_0 : decode cX6_caret 0 = .ok (.iload_n 1, 1) := by decide +kernel
theorem dX6_caret_1 : decode cX6_caret 1 = .ok (.ifCond .lt 17, 3) := by decide +kernel
theorem dX6_caret_4 : decode cX6_caret 4 = .ok (.iload_n 1, 1) := by decide +kernel
theorem dX6_caret_5 : decode cX6_caret 5 = .ok (.aload_n 0, 1) := by decide +kernel
theorem dX6_caret_6 : decode cX6_caret 6 = .ok (.getfield 47, 3) := by decide +kernel
theorem dX6_caret_9 : decode cX6_caret 9 = .ok (.getfield 131, 3) := by decide +kernel
theorem dX6_caret_12 : decode cX6_caret 12 = .ok (.invokevirtual 58, 3) := by decide +kernel
theorem dX6_caret_15 : decode cX6_caret 15 = .ok (.if_icmp .le 10, 3) := by decide +kernel
theorem dX6_caret_18 : decode cX6_caret 18 = .ok (.aload_n 0, 1) := by decide +kernel
theorem dX6_caret_19 : decode cX6_caret 19 = .ok (.bipush (-2), 2) := by decide +kernel
theorem dX6_caret_21 : decode cX6_caret 21 = .ok (.invokevirtual 54, 3) := by decide +kernel
theorem dX6_caret_24 : decode cX6_caret 24 = .ok (.ireturn, 1) := by decide +kernel
theorem dX6_caret_25 : decode cX6_caret 25 = .ok (.aload_n 0, 1) := by decide +kernel
theorem dX6_caret_26 : decode cX6_caret 26 = .ok (.getfield 47, 3) := by decide +kernel
theorem dX6_caret_29 : decode cX6_caret 29 = .ok (.getfield 99, 3) := by decide +kernel
theorem dX6_caret_32 : decode cX6_caret 32 = .ok (.ifCond .le 10, 3) := by decide +kernel
theorem dX6_caret_35 : decode cX6_caret 35 = .ok (.aload_n 0, 1) := by decide +kernel
theorem dX6_caret_36 : decode cX6_caret 36 = .ok (.bipush (-3), 2) := by decide +kernel
theorem dX6_caret_38 : decode cX6_caret 38 = .ok (.invokevirtual 54, 3) := by decide +kernel
theorem dX6_caret_41 : decode cX6_caret 41 = .ok (.ireturn, 1) := by decide +kernel
theorem dX6_caret_42 : decode cX6_caret 42 = .ok (.aload_n 0, 1) := by decide +kernel
theorem dX6_caret_43 : decode cX6_caret 43 = .ok (.getfield 47, 3) := by decide +kernel
theorem dX6_caret_46 : decode cX6_caret 46 = .ok (.getfield 134, 3) := by decide +kernel
theorem dX6_caret_49 : decode cX6_caret 49 = .ok (.istore_n 2, 1) := by decide +kernel
theorem dX6_caret_50 : decode cX6_caret 50 = .ok (.aload_n 0, 1) := by decide +kernel
theorem dX6_caret_51 : decode cX6_caret 51 = .ok (.getfield 51, 3) := by decide +kernel
theorem dX6_caret_54 : decode cX6_caret 54 = .ok (.aload_n 0, 1) := by decide +kernel
theorem dX6_caret_55 : decode cX6_caret 55 = .ok (.getfield 47, 3) := by decide +kernel
theorem dX6_caret_58 : decode cX6_caret 58 = .ok (.invokevirtual 76, 3) := by decide +kernel
theorem dX6_caret_61 : decode cX6_caret 61 = .ok (.aload_n 0, 1) := by decide +kernel
theorem dX6_caret_62 : decode cX6_caret 62 = .ok (.getfield 51, 3) := by decide +kernel
theorem dX6_caret_65 : decode cX6_caret 65 = .ok (.iload_n 1, 1) := by decide +kernel
theorem dX6_caret_66 : decode cX6_caret 66 = .ok (.putfield 134, 3) := by decide +kernel
theorem dX6_caret_69 : decode cX6_caret 69 = .ok (.aload_n 0, 1) := by decide +kernel
theorem dX6_caret_70 : decode cX6_caret 70 = .ok (.invokevirtual 87, 3) := by decide +kernel
theorem dX6_caret_73 : decode cX6_caret 73 = .ok (.ifCond .eq 7, 3) := by decide +kernel
theorem dX6_caret_76 : decode cX6_caret 76 = .ok (.iload_n 2, 1) := by decide +kernel
theorem dX6_caret_77 : decode cX6_caret 77 = .ok (.goto 9, 3) := by decide +kernel
theorem dX6_caret_80 : decode cX6_caret 80 = .ok (.aload_n 0, 1) := by decide +kernel
theorem dX6_caret_81 : decode cX6_caret 81 = .ok (.bipush (-4), 2) := by decide +kernel
theorem dX6_caret_83 : decode cX6_caret 83 = .ok (.invokevirtual 54, 3) := by decide +kernel
theorem dX6_caret_86 : decode cX6_caret 86 = .ok (.ireturn, 1) := by decide +kernel
theorem dX6_cuts_0 : decode cX6_cuts 0 = .ok (.aload_n 0, 1) := by decide +kernel
theorem dX6_cuts_1 : decode cX6_cuts 1 = .ok (.getfield 47, 3) := by decide +kernel
theorem dX6_cuts_4 : decode cX6_cuts 4 = .ok (.getfield 131, 3) := by decide +kernel
theorem dX6_cuts_7 : decode cX6_cuts 7 = .ok (.invokevirtual 58, 3) := by decide +kernel
theorem dX6_cuts_10 : decode cX6_cuts 10 = .ok (.istore_n 3, 1) := by decide +kernel
theorem dX6_cuts_11 : decode cX6_cuts 11 = .ok (.iload_n 1, 1) := by decide +kernel
theorem dX6_cuts_12 : decode cX6_cuts 12 = .ok (.ifCond .lt 20, 3) := by decide +kernel
theorem dX6_cuts_15 : decode cX6_cuts 15 = .ok (.iload_n 1, 1) := by decide +kernel
theorem dX6_cuts_16 : decode cX6_cuts 16 = .ok (.iload_n 3, 1) := by decide +kernel
theorem dX6_cuts_17 : decode cX6_cuts 17 = .ok (.if_icmp .gt 15, 3) := by decide +kernel
theorem dX6_cuts_20 : decode cX6_cuts 20 = .ok (.iload_n 2, 1) := by decide +kernel
theorem dX6_cuts_21 : decode cX6_cuts 21 = .ok (.iconst 1, 1) := by decide +kernel
theorem dX6_cuts_22 : decode cX6_cuts 22 = .ok (.if_icmp .lt 10, 3) := by decide +kernel
theorem dX6_cuts_25 : decode cX6_cuts 25 = .ok (.iload_n 2, 1) := by decide +kernel
theorem dX6_cuts_26 : decode cX6_cuts 26 = .ok (.iload_n 3, 1) := by decide +kernel
theorem dX6_cuts_27 : decode cX6_cuts 27 = .ok (.iload_n 1, 1) := by decide +kernel
theorem dX6_cuts_28 : decode cX6_cuts 28 = .ok (.isub, 1) := by decide +kernel
theorem dX6_cuts_29 : decode cX6_cuts 29 = .ok (.if_icmp .le 10, 3) := by decide +kernel
theorem dX6_cuts_32 : decode cX6_cuts 32 = .ok (.aload_n 0, 1) := by decide +kernel
theorem dX6_cuts_33 : decode cX6_cuts 33 = .ok (.bipush (-2), 2) := by decide +kernel
theorem dX6_cuts_35 : decode cX6_cuts 35 = .ok (.invokevirtual 54, 3) := by decide +kernel
theorem dX6_cuts_38 : decode cX6_cuts 38 = .ok (.ireturn, 1) := by decide +kernel
theorem dX6_cuts_39 : decode cX6_cuts 39 = .ok (.aload_n 0, 1) := by decide +kernel
theorem dX6_cuts_40 : decode cX6_cuts 40 = .ok (.getfield 47, 3) := by decide +kernel
theorem dX6_cuts_43 : decode cX6_cuts 43 = .ok (.getfield 99, 3) := by decide +kernel
theorem dX6_cuts_46 : decode cX6_cuts 46 = .ok (.ifCond .le 10, 3) := by decide +kernel
theorem dX6_cuts_49 : decode cX6_cuts 49 = .ok (.aload_n 0, 1) := by decide +kernel
theorem dX6_cuts_50 : decode cX6_cuts 50 = .ok (.bipush (-3), 2) := by decide +kernel
theorem dX6_cuts_52 : decode cX6_cuts 52 = .ok (.invokevirtual 54, 3) := by decide +kernel
theorem dX6_cuts_55 : decode cX6_cuts 55 = .ok (.ireturn, 1) := by decide +kernel
theorem dX6_cuts_56 : decode cX6_cuts 56 = .ok (.aload_n 0, 1) := by decide +kernel
theorem dX6_cuts_57 : decode cX6_cuts 57 = .ok (.getfield 51, 3) := by decide +kernel
theorem dX6_cuts_60 : decode cX6_cuts 60 = .ok (.aload_n 0, 1) := by decide +kernel
theorem dX6_cuts_61 : decode cX6_cuts 61 = .ok (.getfield 47, 3) := by decide +kernel
theorem dX6_cuts_64 : decode cX6_cuts 64 = .ok (.invokevirtual 76, 3) := by decide +kernel
theorem dX6_cuts_67 : decode cX6_cuts 67 = .ok (.aload_n 0, 1) := by decide +kernel
theorem dX6_cuts_68 : decode cX6_cuts 68 = .ok (.getfield 51, 3) := by decide +kernel
theorem dX6_cuts_71 : decode cX6_cuts 71 = .ok (.iload_n 1, 1) := by decide +kernel
theorem dX6_cuts_72 : decode cX6_cuts 72 = .ok (.iload_n 2, 1) := by decide +kernel
theorem dX6_cuts_73 : decode cX6_cuts 73 = .ok (.invokevirtual 144, 3) := by decide +kernel
theorem dX6_cuts_76 : decode cX6_cuts 76 = .ok (.aload_n 0, 1) := by decide +kernel
theorem dX6_cuts_77 : decode cX6_cuts 77 = .ok (.invokevirtual 87, 3) := by decide +kernel
theorem dX6_cuts_80 : decode cX6_cuts 80 = .ok (.ifCond .eq 16, 3) := by decide +kernel
theorem dX6_cuts_83 : decode cX6_cuts 83 = .ok (.aload_n 0, 1) := by decide +kernel
theorem dX6_cuts_84 : decode cX6_cuts 84 = .ok (.getfield 47, 3) := by decide +kernel
theorem dX6_cuts_87 : decode cX6_cuts 87 = .ok (.getfield 131, 3) := by decide +kernel
theorem dX6_cuts_90 : decode cX6_cuts 90 = .ok (.invokevirtual 58, 3) := by decide +kernel
theorem dX6_cuts_93 : decode cX6_cuts 93 = .ok (.goto 9, 3) := by decide +kernel
theorem dX6_cuts_96 : decode cX6_cuts 96 = .ok (.aload_n 0, 1) := by decide +kernel
theorem dX6_cuts_97 : decode cX6_cuts 97 = .ok (.bipush (-4), 2) := by decide +kernel
theorem dX6_cuts_99 : decode cX6_cuts 99 = .ok (.invokevirtual 54, 3) := by decide +kernel
theorem dX6_cuts_102 : decode cX6_cuts 102 = .ok (.ireturn, 1) := by decide +kernel
theorem dX6_at_0 : decode cX6_at 0 = .ok (.iload_n 1, 1) := by decide +kernel
theorem dX6_at_1 : decode cX6_at 1 = .ok (.ifCond .ge 12, 3) := by decide +kernel
theorem dX6_at_4 : decode cX6_at 4 = .ok (.aload_n 0, 1) := by decide +kernel
theorem dX6_at_5 : decode cX6_at 5 = .ok (.bipush (-2), 2) := by decide +kernel
theorem dX6_at_7 : decode cX6_at 7 = .ok (.invokevirtual 54, 3) := by decide +kernel
theorem dX6_at_10 : decode cX6_at 10 = .ok (.goto 14, 3) := by decide +kernel
theorem dX6_at_13 : decode cX6_at 13 = .ok (.aload_n 0, 1) := by decide +kernel
theorem dX6_at_14 : decode cX6_at 14 = .ok (.getfield 47, 3) := by decide +kernel
theorem dX6_at_17 : decode cX6_at 17 = .ok (.getfield 131, 3) := by decide +kernel
theorem dX6_at_20 : decode cX6_at 20 = .ok (.iload_n 1, 1) := by decide +kernel
theorem dX6_at_21 : decode cX6_at 21 = .ok (.invokevirtual 166, 3) := by decide +kernel
theorem dX6_at_24 : decode cX6_at 24 = .ok (.ireturn, 1) := by decide +kernel
theorem dX6_count_0 : decode cX6_count 0 = .ok (.aload_n 0, 1) := by decide +kernel
theorem dX6_count_1 : decode cX6_count 1 = .ok (.getfield 47, 3) := by decide +kernel
theorem dX6_count_4 : decode cX6_count 4 = .ok (.invokevirtual 119, 3) := by decide +kernel
theorem dX6_count_7 : decode cX6_count 7 = .ok (.astore_n 2, 1) := by decide +kernel
theorem dX6_count_8 : decode cX6_count 8 = .ok (.iload_n 1, 1) := by decide +kernel
theorem dX6_count_9 : decode cX6_count 9 = .ok (.tableswitch 117 0 5 #[39, 50, 66, 74, 87, 104], 39) := by decide +kernel
theorem dX6_count_48 : decode cX6_count 48 = .ok (.aload_n 0, 1) := by decide +kernel
theorem dX6_count_49 : decode cX6_count 49 = .ok (.getfield 47, 3) := by decide +kernel
theorem dX6_count_52 : decode cX6_count 52 = .ok (.getfield 131, 3) := by decide +kernel
theorem dX6_count_55 : decode cX6_count 55 = .ok (.invokevirtual 58, 3) := by decide +kernel
theorem dX6_count_58 : decode cX6_count 58 = .ok (.ireturn, 1) := by decide +kernel
theorem dX6_count_59 : decode cX6_count 59 = .ok (.aload_n 2, 1) := by decide +kernel
theorem dX6_count_60 : decode cX6_count 60 = .ok (.ifnonnull 13, 3) := by decide +kernel
theorem dX6_count_63 : decode cX6_count 63 = .ok (.aload_n 0, 1) := by decide +kernel
theorem dX6_count_64 : decode cX6_count 64 = .ok (.getfield 47, 3) := by decide +kernel
theorem dX6_count_67 : decode cX6_count 67 = .ok (.getfield 134, 3) := by decide +kernel
theorem dX6_count_70 : decode cX6_count 70 = .ok (.goto 4, 3) := by decide +kernel
theorem dX6_count_73 : decode cX6_count 73 = .ok (.iconst (-1), 1) := by decide +kernel
theorem dX6_count_74 : decode cX6_count 74 = .ok (.ireturn, 1) := by decide +kernel
theorem dX6_count_75 : decode cX6_count 75 = .ok (.aload_n 0, 1) := by decide +kernel
theorem dX6_count_76 : decode cX6_count 76 = .ok (.getfield 47, 3) := by decide +kernel
theorem dX6_count_79 : decode cX6_count 79 = .ok (.getfield 99, 3) := by decide +kernel
theorem dX6_count_82 : decode cX6_count 82 = .ok (.ireturn, 1) := by decide +kernel
theorem dX6_count_83 : decode cX6_count 83 = .ok (.aload_n 2, 1) := by decide +kernel
theorem dX6_count_84 : decode cX6_count 84 = .ok (.ifnonnull 7, 3) := by decide +kernel
theorem dX6_count_87 : decode cX6_count 87 = .ok (.iconst (-1), 1) := by decide +kernel
theorem dX6_count_88 : decode cX6_count 88 = .ok (.goto 7, 3) := by decide +kernel
theorem dX6_count_91 : decode cX6_count 91 = .ok (.aload_n 2, 1) := by decide +kernel
theorem dX6_count_92 : decode cX6_count 92 = .ok (.getfield 137, 3) := by decide +kernel
theorem dX6_count_95 : decode cX6_count 95 = .ok (.ireturn, 1) := by decide +kernel
theorem dX6_count_96 : decode cX6_count 96 = .ok (.aload_n 2, 1) := by decide +kernel
theorem dX6_count_97 : decode cX6_count 97 = .ok (.ifnull 14, 3) := by decide +kernel
theorem dX6_count_100 : decode cX6_count 100 = .ok (.aload_n 2, 1) := by decide +kernel
theorem dX6_count_101 : decode cX6_count 101 = .ok (.getfield 169, 3) := by decide +kernel
theorem dX6_count_104 : decode cX6_count 104 = .ok (.ifCond .eq 7, 3) := by decide +kernel
theorem dX6_count_107 : decode cX6_count 107 = .ok (.iconst 1, 1) := by decide +kernel
theorem dX6_count_108 : decode cX6_count 108 = .ok (.goto 4, 3) := by decide +kernel
theorem dX6_count_111 : decode cX6_count 111 = .ok (.iconst 0, 1) := by decide +kernel
theorem dX6_count_112 : decode cX6_count 112 = .ok (.ireturn, 1) := by decide +kernel
theorem dX6_count_113 : decode cX6_count 113 = .ok (.aload_n 2, 1) := by decide +kernel
theorem dX6_count_114 : decode cX6_count 114 = .ok (.ifnonnull 7, 3) := by decide +kernel
theorem dX6_count_117 : decode cX6_count 117 = .ok (.iconst 0, 1) := by decide +kernel
theorem dX6_count_118 : decode cX6_count 118 = .ok (.goto 7, 3) := by decide +kernel
theorem dX6_count_121 : decode cX6_count 121 = .ok (.aload_n 2, 1) := by decide +kernel
theorem dX6_count_122 : decode cX6_count 122 = .ok (.invokevirtual 173, 3) := by decide +kernel
theorem dX6_count_125 : decode cX6_count 125 = .ok (.ireturn, 1) := by decide +kernel
theorem dX6_count_126 : decode cX6_count 126 = .ok (.aload_n 0, 1) := by decide +kernel
theorem dX6_count_127 : decode cX6_count 127 = .ok (.bipush (-2), 2) := by decide +kernel
theorem dX6_count_129 : decode cX6_count 129 = .ok (.invokevirtual 54, 3) := by decide +kernel
theorem dX6_count_132 : decode cX6_count 132 = .ok (.ireturn, 1) := by decide +kernel
theorem dX6_stop_0 : decode cX6_stop 0 = .ok (.iload_n 1, 1) := by decide +kernel
theorem dX6_stop_1 : decode cX6_stop 1 = .ok (.invokestatic 176, 3) := by decide +kernel
theorem dX6_stop_4 : decode cX6_stop 4 = .ok (.ifCond .eq 12, 3) := by decide +kernel
theorem dX6_stop_7 : decode cX6_stop 7 = .ok (.iload_n 2, 1) := by decide +kernel
theorem dX6_stop_8 : decode cX6_stop 8 = .ok (.ifCond .lt 8, 3) := by decide +kernel
theorem dX6_stop_11 : decode cX6_stop 11 = .ok (.iload_n 2, 1) := by decide +kernel
theorem dX6_stop_12 : decode cX6_stop 12 = .ok (.iconst 4, 1) := by decide +kernel
theorem dX6_stop_13 : decode cX6_stop 13 = .ok (.if_icmp .le 10, 3) := by decide +kernel
theorem dX6_stop_16 : decode cX6_stop 16 = .ok (.aload_n 0, 1) := by decide +kernel
theorem dX6_stop_17 : decode cX6_stop 17 = .ok (.bipush (-2), 2) := by decide +kernel
theorem dX6_stop_19 : decode cX6_stop 19 = .ok (.invokevirtual 54, 3) := by decide +kernel
theorem dX6_stop_22 : decode cX6_stop 22 = .ok (.ireturn, 1) := by decide +kernel
theorem dX6_stop_23 : decode cX6_stop 23 = .ok (.aload_n 0, 1) := by decide +kernel
theorem dX6_stop_24 : decode cX6_stop 24 = .ok (.getfield 47, 3) := by decide +kernel
theorem dX6_stop_27 : decode cX6_stop 27 = .ok (.invokevirtual 119, 3) := by decide +kernel
theorem dX6_stop_30 : decode cX6_stop 30 = .ok (.astore_n 3, 1) := by decide +kernel
theorem dX6_stop_31 : decode cX6_stop 31 = .ok (.aload_n 3, 1) := by decide +kernel
theorem dX6_stop_32 : decode cX6_stop 32 = .ok (.ifnonnull 10, 3) := by decide +kernel
theorem dX6_stop_35 : decode cX6_stop 35 = .ok (.aload_n 0, 1) := by decide +kernel
theorem dX6_stop_36 : decode cX6_stop 36 = .ok (.bipush (-3), 2) := by decide +kernel
theorem dX6_stop_38 : decode cX6_stop 38 = .ok (.invokevirtual 54, 3) := by decide +kernel
theorem dX6_stop_41 : decode cX6_stop 41 = .ok (.ireturn, 1) := by decide +kernel
theorem dX6_stop_42 : decode cX6_stop 42 = .ok (.iload_n 2, 1) := by decide +kernel
theorem dX6_stop_43 : decode cX6_stop 43 = .ok (.tableswitch 73 0 3 #[29, 43, 57, 67], 29) := by decide +kernel
theorem dX6_stop_72 : decode cX6_stop 72 = .ok (.aload_n 3, 1) := by decide +kernel
theorem dX6_stop_73 : decode cX6_stop 73 = .ok (.iload_n 1, 1) := by decide +kernel
theorem dX6_stop_74 : decode cX6_stop 74 = .ok (.invokevirtual 179, 3) := by decide +kernel
theorem dX6_stop_77 : decode cX6_stop 77 = .ok (.ifCond .le 7, 3) := by decide +kernel
theorem dX6_stop_80 : decode cX6_stop 80 = .ok (.iconst 1, 1) := by decide +kernel
theorem dX6_stop_81 : decode cX6_stop 81 = .ok (.goto 4, 3) := by decide +kernel
theorem dX6_stop_84 : decode cX6_stop 84 = .ok (.iconst 0, 1) := by decide +kernel
theorem dX6_stop_85 : decode cX6_stop 85 = .ok (.ireturn, 1) := by decide +kernel
theorem dX6_stop_86 : decode cX6_stop 86 = .ok (.aload_n 3, 1) := by decide +kernel
theorem dX6_stop_87 : decode cX6_stop 87 = .ok (.iload_n 1, 1) := by decide +kernel
theorem dX6_stop_88 : decode cX6_stop 88 = .ok (.invokevirtual 182, 3) := by decide +kernel
theorem dX6_stop_91 : decode cX6_stop 91 = .ok (.ifCond .eq 7, 3) := by decide +kernel
theorem dX6_stop_94 : decode cX6_stop 94 = .ok (.iconst 1, 1) := by decide +kernel
theorem dX6_stop_95 : decode cX6_stop 95 = .ok (.goto 4, 3) := by decide +kernel
theorem dX6_stop_98 : decode cX6_stop 98 = .ok (.iconst 0, 1) := by decide +kernel
theorem dX6_stop_99 : decode cX6_stop 99 = .ok (.ireturn, 1) := by decide +kernel
theorem dX6_stop_100 : decode cX6_stop 100 = .ok (.aload_n 0, 1) := by decide +kernel
theorem dX6_stop_101 : decode cX6_stop 101 = .ok (.aload_n 3, 1) := by decide +kernel
theorem dX6_stop_102 : decode cX6_stop 102 = .ok (.iload_n 1, 1) := by decide +kernel
theorem dX6_stop_103 : decode cX6_stop 103 = .ok (.invokevirtual 140, 3) := by decide +kernel
theorem dX6_stop_106 : decode cX6_stop 106 = .ok (.invokevirtual 58, 3) := by decide +kernel
theorem dX6_stop_109 : decode cX6_stop 109 = .ok (.ireturn, 1) := by decide +kernel
theorem dX6_stop_110 : decode cX6_stop 110 = .ok (.aload_n 3, 1) := by decide +kernel
theorem dX6_stop_111 : decode cX6_stop 111 = .ok (.iload_n 1, 1) := by decide +kernel
theorem dX6_stop_112 : decode cX6_stop 112 = .ok (.invokevirtual 179, 3) := by decide +kernel
theorem dX6_stop_115 : decode cX6_stop 115 = .ok (.ireturn, 1) := by decide +kernel
theorem dX6_stop_116 : decode cX6_stop 116 = .ok (.aload_n 3, 1) := by decide +kernel
theorem dX6_stop_117 : decode cX6_stop 117 = .ok (.iload_n 1, 1) := by decide +kernel
theorem dX6_stop_118 : decode cX6_stop 118 = .ok (.invokevirtual 160, 3) := by decide +kernel
theorem dX6_stop_121 : decode cX6_stop 121 = .ok (.ireturn, 1) := by decide +kernel
theorem dX6_held_0 : decode cX6_held 0 = .ok (.iload_n 1, 1) := by decide +kernel
theorem dX6_held_1 : decode cX6_held 1 = .ok (.invokestatic 176, 3) := by decide +kernel
theorem dX6_held_4 : decode cX6_held 4 = .ok (.ifCond .eq 7, 3) := by decide +kernel
theorem dX6_held_7 : decode cX6_held 7 = .ok (.iload_n 2, 1) := by decide +kernel
theorem dX6_held_8 : decode cX6_held 8 = .ok (.ifCond .ge 10, 3) := by decide +kernel
theorem dX6_held_11 : decode cX6_held 11 = .ok (.aload_n 0, 1) := by decide +kernel
theorem dX6_held_12 : decode cX6_held 12 = .ok (.bipush (-2), 2) := by decide +kernel
theorem dX6_held_14 : decode cX6_held 14 = .ok (.invokevirtual 54, 3) := by decide +kernel
theorem dX6_held_17 : decode cX6_held 17 = .ok (.ireturn, 1) := by decide +kernel
theorem dX6_held_18 : decode cX6_held 18 = .ok (.aload_n 0, 1) := by decide +kernel
theorem dX6_held_19 : decode cX6_held 19 = .ok (.getfield 47, 3) := by decide +kernel
theorem dX6_held_22 : decode cX6_held 22 = .ok (.invokevirtual 119, 3) := by decide +kernel
theorem dX6_held_25 : decode cX6_held 25 = .ok (.astore_n 3, 1) := by decide +kernel
theorem dX6_held_26 : decode cX6_held 26 = .ok (.aload_n 3, 1) := by decide +kernel
theorem dX6_held_27 : decode cX6_held 27 = .ok (.ifnonnull 12, 3) := by decide +kernel
theorem dX6_held_30 : decode cX6_held 30 = .ok (.aload_n 0, 1) := by decide +kernel
theorem dX6_held_31 : decode cX6_held 31 = .ok (.bipush (-3), 2) := by decide +kernel
theorem dX6_held_33 : decode cX6_held 33 = .ok (.invokevirtual 54, 3) := by decide +kernel
theorem dX6_held_36 : decode cX6_held 36 = .ok (.goto 13, 3) := by decide +kernel
theorem dX6_held_39 : decode cX6_held 39 = .ok (.aload_n 0, 1) := by decide +kernel
theorem dX6_held_40 : decode cX6_held 40 = .ok (.aload_n 3, 1) := by decide +kernel
theorem dX6_held_41 : decode cX6_held 41 = .ok (.iload_n 1, 1) := by decide +kernel
theorem dX6_held_42 : decode cX6_held 42 = .ok (.invokevirtual 140, 3) := by decide +kernel
theorem dX6_held_45 : decode cX6_held 45 = .ok (.iload_n 2, 1) := by decide +kernel
theorem dX6_held_46 : decode cX6_held 46 = .ok (.invokevirtual 166, 3) := by decide +kernel
theorem dX6_held_49 : decode cX6_held 49 = .ok (.ireturn, 1) := by decide +kernel
theorem dX6_choice_0 : decode cX6_choice 0 = .ok (.iload_n 1, 1) := by decide +kernel
theorem dX6_choice_1 : decode cX6_choice 1 = .ok (.invokestatic 176, 3) := by decide +kernel
theorem dX6_choice_4 : decode cX6_choice 4 = .ok (.ifCond .eq 11, 3) := by decide +kernel
theorem dX6_choice_7 : decode cX6_choice 7 = .ok (.iload_n 2, 1) := by decide +kernel
theorem dX6_choice_8 : decode cX6_choice 8 = .ok (.ifCond .lt 7, 3) := by decide +kernel
theorem dX6_choice_11 : decode cX6_choice 11 = .ok (.iload_n 3, 1) := by decide +kernel
theorem dX6_choice_12 : decode cX6_choice 12 = .ok (.ifCond .ge 10, 3) := by decide +kernel
theorem dX6_choice_15 : decode cX6_choice 15 = .ok (.aload_n 0, 1) := by decide +kernel
theorem dX6_choice_16 : decode cX6_choice 16 = .ok (.bipush (-2), 2) := by decide +kernel
theorem dX6_choice_18 : decode cX6_choice 18 = .ok (.invokevirtual 54, 3) := by decide +kernel
theorem dX6_choice_21 : decode cX6_choice 21 = .ok (.ireturn, 1) := by decide +kernel
theorem dX6_choice_22 : decode cX6_choice 22 = .ok (.aload_n 0, 1) := by decide +kernel
theorem dX6_choice_23 : decode cX6_choice 23 = .ok (.getfield 47, 3) := by decide +kernel
theorem dX6_choice_26 : decode cX6_choice 26 = .ok (.invokevirtual 119, 3) := by decide +kernel
theorem dX6_choice_29 : decode cX6_choice 29 = .ok (.astore 4, 2) := by decide +kernel
theorem dX6_choice_31 : decode cX6_choice 31 = .ok (.aload 4, 2) := by decide +kernel
theorem dX6_choice_33 : decode cX6_choice 33 = .ok (.ifnonnull 10, 3) := by decide +kernel
theorem dX6_choice_36 : decode cX6_choice 36 = .ok (.aload_n 0, 1) := by decide +kernel
theorem dX6_choice_37 : decode cX6_choice 37 = .ok (.bipush (-3), 2) := by decide +kernel
theorem dX6_choice_39 : decode cX6_choice 39 = .ok (.invokevirtual 54, 3) := by decide +kernel
theorem dX6_choice_42 : decode cX6_choice 42 = .ok (.ireturn, 1) := by decide +kernel
theorem dX6_choice_43 : decode cX6_choice 43 = .ok (.aload_n 0, 1) := by decide +kernel
theorem dX6_choice_44 : decode cX6_choice 44 = .ok (.getfield 19, 3) := by decide +kernel
theorem dX6_choice_47 : decode cX6_choice 47 = .ok (.invokevirtual 65, 3) := by decide +kernel
theorem dX6_choice_50 : decode cX6_choice 50 = .ok (.iload_n 2, 1) := by decide +kernel
theorem dX6_choice_51 : decode cX6_choice 51 = .ok (.aload 4, 2) := by decide +kernel
theorem dX6_choice_53 : decode cX6_choice 53 = .ok (.iload_n 1, 1) := by decide +kernel
theorem dX6_choice_54 : decode cX6_choice 54 = .ok (.invokevirtual 160, 3) := by decide +kernel
theorem dX6_choice_57 : decode cX6_choice 57 = .ok (.if_icmp .ge 17, 3) := by decide +kernel
theorem dX6_choice_60 : decode cX6_choice 60 = .ok (.aload 4, 2) := by decide +kernel
theorem dX6_choice_62 : decode cX6_choice 62 = .ok (.getfield 185, 3) := by decide +kernel
theorem dX6_choice_65 : decode cX6_choice 65 = .ok (.iload_n 1, 1) := by decide +kernel
theorem dX6_choice_66 : decode cX6_choice 66 = .ok (.iload_n 2, 1) := by decide +kernel
theorem dX6_choice_67 : decode cX6_choice 67 = .ok (.aload_n 0, 1) := by decide +kernel
theorem dX6_choice_68 : decode cX6_choice 68 = .ok (.getfield 19, 3) := by decide +kernel
theorem dX6_choice_71 : decode cX6_choice 71 = .ok (.invokevirtual 186, 3) := by decide +kernel
theorem dX6_choice_74 : decode cX6_choice 74 = .ok (.aload_n 0, 1) := by decide +kernel
theorem dX6_choice_75 : decode cX6_choice 75 = .ok (.getfield 19, 3) := by decide +kernel
theorem dX6_choice_78 : decode cX6_choice 78 = .ok (.iload_n 3, 1) := by decide +kernel
theorem dX6_choice_79 : decode cX6_choice 79 = .ok (.invokevirtual 166, 3) := by decide +kernel
theorem dX6_choice_82 : decode cX6_choice 82 = .ok (.ireturn, 1) := by decide +kernel
theorem dX6_occurrence_0 : decode cX6_occurrence 0 = .ok (.iload_n 1, 1) := by decide +kernel
theorem dX6_occurrence_1 : decode cX6_occurrence 1 = .ok (.invokestatic 176, 3) := by decide +kernel
theorem dX6_occurrence_4 : decode cX6_occurrence 4 = .ok (.ifCond .eq 16, 3) := by decide +kernel
theorem dX6_occurrence_7 : decode cX6_occurrence 7 = .ok (.iload_n 2, 1) := by decide +kernel
theorem dX6_occurrence_8 : decode cX6_occurrence 8 = .ok (.ifCond .lt 12, 3) := by decide +kernel
theorem dX6_occurrence_11 : decode cX6_occurrence 11 = .ok (.iload_n 3, 1) := by decide +kernel
theorem dX6_occurrence_12 : decode cX6_occurrence 12 = .ok (.ifCond .lt 8, 3) := by decide +kernel
theorem dX6_occurrence_15 : decode cX6_occurrence 15 = .ok (.iload_n 3, 1) := by decide +kernel
theorem dX6_occurrence_16 : decode cX6_occurrence 16 = .ok (.iconst 3, 1) := by decide +kernel
theorem dX6_occurrence_17 : decode cX6_occurrence 17 = .ok (.if_icmp .le 10, 3) := by decide +kernel
theorem dX6_occurrence_20 : decode cX6_occurrence 20 = .ok (.aload_n 0, 1) := by decide +kernel
theorem dX6_occurrence_21 : decode cX6_occurrence 21 = .ok (.bipush (-2), 2) := by decide +kernel
theorem dX6_occurrence_23 : decode cX6_occurrence 23 = .ok (.invokevirtual 54, 3) := by decide +kernel
theorem dX6_occurrence_26 : decode cX6_occurrence 26 = .ok (.ireturn, 1) := by decide +kernel
theorem dX6_occurrence_27 : decode cX6_occurrence 27 = .ok (.aload_n 0, 1) := by decide +kernel
theorem dX6_occurrence_28 : decode cX6_occurrence 28 = .ok (.getfield 47, 3) := by decide +kernel
theorem dX6_occurrence_31 : decode cX6_occurrence 31 = .ok (.invokevirtual 119, 3) := by decide +kernel
theorem dX6_occurrence_34 : decode cX6_occurrence 34 = .ok (.astore 4, 2) := by decide +kernel
theorem dX6_occurrence_36 : decode cX6_occurrence 36 = .ok (.aload 4, 2) := by decide +kernel
theorem dX6_occurrence_38 : decode cX6_occurrence 38 = .ok (.ifnonnull 10, 3) := by decide +kernel
theorem dX6_occurrence_41 : decode cX6_occurrence 41 = .ok (.aload_n 0, 1) := by decide +kernel
theorem dX6_occurrence_42 : decode cX6_occurrence 42 = .ok (.bipush (-3), 2) := by decide +kernel
theorem dX6_occurrence_44 : decode cX6_occurrence 44 = .ok (.invokevirtual 54, 3) := by decide +kernel
theorem dX6_occurrence_47 : decode cX6_occurrence 47 = .ok (.ireturn, 1) := by decide +kernel
theorem dX6_occurrence_48 : decode cX6_occurrence 48 = .ok (.aload 4, 2) := by decide +kernel
theorem dX6_occurrence_50 : decode cX6_occurrence 50 = .ok (.iload_n 1, 1) := by decide +kernel
theorem dX6_occurrence_51 : decode cX6_occurrence 51 = .ok (.iload_n 2, 1) := by decide +kernel
theorem dX6_occurrence_52 : decode cX6_occurrence 52 = .ok (.invokevirtual 190, 3) := by decide +kernel
theorem dX6_occurrence_55 : decode cX6_occurrence 55 = .ok (.astore 5, 2) := by decide +kernel
theorem dX6_occurrence_57 : decode cX6_occurrence 57 = .ok (.aload 5, 2) := by decide +kernel
theorem dX6_occurrence_59 : decode cX6_occurrence 59 = .ok (.ifnonnull 5, 3) := by decide +kernel
theorem dX6_occurrence_62 : decode cX6_occurrence 62 = .ok (.iconst (-1), 1) := by decide +kernel
theorem dX6_occurrence_63 : decode cX6_occurrence 63 = .ok (.ireturn, 1) := by decide +kernel
theorem dX6_occurrence_64 : decode cX6_occurrence 64 = .ok (.iload_n 3, 1) := by decide +kernel
theorem dX6_occurrence_65 : decode cX6_occurrence 65 = .ok (.tableswitch 57 0 2 #[27, 43, 51], 27) := by decide +kernel
theorem dX6_occurrence_92 : decode cX6_occurrence 92 = .ok (.aload_n 0, 1) := by decide +kernel
theorem dX6_occurrence_93 : decode cX6_occurrence 93 = .ok (.getfield 47, 3) := by decide +kernel
theorem dX6_occurrence_96 : decode cX6_occurrence 96 = .ok (.invokevirtual 194, 3) := by decide +kernel
theorem dX6_occurrence_99 : decode cX6_occurrence 99 = .ok (.aload 4, 2) := by decide +kernel
theorem dX6_occurrence_101 : decode cX6_occurrence 101 = .ok (.aload 5, 2) := by decide +kernel
theorem dX6_occurrence_103 : decode cX6_occurrence 103 = .ok (.invokevirtual 197, 3) := by decide +kernel
theorem dX6_occurrence_106 : decode cX6_occurrence 106 = .ok (.iadd, 1) := by decide +kernel
theorem dX6_occurrence_107 : decode cX6_occurrence 107 = .ok (.ireturn, 1) := by decide +kernel
theorem dX6_occurrence_108 : decode cX6_occurrence 108 = .ok (.aload 4, 2) := by decide +kernel
theorem dX6_occurrence_110 : decode cX6_occurrence 110 = .ok (.aload 5, 2) := by decide +kernel
theorem dX6_occurrence_112 : decode cX6_occurrence 112 = .ok (.invokevirtual 201, 3) := by decide +kernel
theorem dX6_occurrence_115 : decode cX6_occurrence 115 = .ok (.ireturn, 1) := by decide +kernel
theorem dX6_occurrence_116 : decode cX6_occurrence 116 = .ok (.aload 5, 2) := by decide +kernel
theorem dX6_occurrence_118 : decode cX6_occurrence 118 = .ok (.getfield 204, 3) := by decide +kernel
theorem dX6_occurrence_121 : decode cX6_occurrence 121 = .ok (.ireturn, 1) := by decide +kernel
theorem dX6_occurrence_122 : decode cX6_occurrence 122 = .ok (.aload 4, 2) := by decide +kernel
theorem dX6_occurrence_124 : decode cX6_occurrence 124 = .ok (.getfield 185, 3) := by decide +kernel
theorem dX6_occurrence_127 : decode cX6_occurrence 127 = .ok (.aload 5, 2) := by decide +kernel
theorem dX6_occurrence_129 : decode cX6_occurrence 129 = .ok (.invokevirtual 209, 3) := by decide +kernel
theorem dX6_occurrence_132 : decode cX6_occurrence 132 = .ok (.ifCond .eq 7, 3) := by decide +kernel
theorem dX6_occurrence_135 : decode cX6_occurrence 135 = .ok (.iconst 1, 1) := by decide +kernel
theorem dX6_occurrence_136 : decode cX6_occurrence 136 = .ok (.goto 4, 3) := by decide +kernel
theorem dX6_occurrence_139 : decode cX6_occurrence 139 = .ok (.iconst 0, 1) := by decide +kernel
theorem dX6_occurrence_140 : decode cX6_occurrence 140 = .ok (.ireturn, 1) := by decide +kernel
theorem dX6_unlike_0 : decode cX6_unlike 0 = .ok (.aload_n 0, 1) := by decide +kernel
theorem dX6_unlike_1 : decode cX6_unlike 1 = .ok (.getfield 47, 3) := by decide +kernel
theorem dX6_unlike_4 : decode cX6_unlike 4 = .ok (.invokevirtual 119, 3) := by decide +kernel
theorem dX6_unlike_7 : decode cX6_unlike 7 = .ok (.astore_n 1, 1) := by decide +kernel
theorem dX6_unlike_8 : decode cX6_unlike 8 = .ok (.aload_n 1, 1) := by decide +kernel
theorem dX6_unlike_9 : decode cX6_unlike 9 = .ok (.ifnonnull 7, 3) := by decide +kernel
theorem dX6_unlike_12 : decode cX6_unlike 12 = .ok (.iconst 0, 1) := by decide +kernel
theorem dX6_unlike_13 : decode cX6_unlike 13 = .ok (.goto 7, 3) := by decide +kernel
theorem dX6_unlike_16 : decode cX6_unlike 16 = .ok (.aload_n 1, 1) := by decide +kernel
theorem dX6_unlike_17 : decode cX6_unlike 17 = .ok (.invokevirtual 213, 3) := by decide +kernel
theorem dX6_unlike_20 : decode cX6_unlike 20 = .ok (.ireturn, 1) := by decide +kernel
theorem dX6_variableAt_0 : decode cX6_variableAt 0 = .ok (.iload_n 1, 1) := by decide +kernel
theorem dX6_variableAt_1 : decode cX6_variableAt 1 = .ok (.invokestatic 68, 3) := by decide +kernel
theorem dX6_variableAt_4 : decode cX6_variableAt 4 = .ok (.ifCond .eq 7, 3) := by decide +kernel
theorem dX6_variableAt_7 : decode cX6_variableAt 7 = .ok (.iload_n 2, 1) := by decide +kernel
theorem dX6_variableAt_8 : decode cX6_variableAt 8 = .ok (.ifCond .ge 12, 3) := by decide +kernel
theorem dX6_variableAt_11 : decode cX6_variableAt 11 = .ok (.aload_n 0, 1) := by decide +kernel
theorem dX6_variableAt_12 : decode cX6_variableAt 12 = .ok (.bipush (-2), 2) := by decide +kernel
theorem dX6_variableAt_14 : decode cX6_variableAt 14 = .ok (.invokevirtual 54, 3) := by decide +kernel
theorem dX6_variableAt_17 : decode cX6_variableAt 17 = .ok (.goto 16, 3) := by decide +kernel
theorem dX6_variableAt_20 : decode cX6_variableAt 20 = .ok (.aload_n 0, 1) := by decide +kernel
theorem dX6_variableAt_21 : decode cX6_variableAt 21 = .ok (.getfield 47, 3) := by decide +kernel
theorem dX6_variableAt_24 : decode cX6_variableAt 24 = .ok (.getfield 80, 3) := by decide +kernel
theorem dX6_variableAt_27 : decode cX6_variableAt 27 = .ok (.iload_n 1, 1) := by decide +kernel
theorem dX6_variableAt_28 : decode cX6_variableAt 28 = .ok (.aaload, 1) := by decide +kernel
theorem dX6_variableAt_29 : decode cX6_variableAt 29 = .ok (.iload_n 2, 1) := by decide +kernel
theorem dX6_variableAt_30 : decode cX6_variableAt 30 = .ok (.invokevirtual 166, 3) := by decide +kernel
theorem dX6_variableAt_33 : decode cX6_variableAt 33 = .ok (.ireturn, 1) := by decide +kernel
theorem dX6_back_0 : decode cX6_back 0 = .ok (.aload_n 0, 1) := by decide +kernel
theorem dX6_back_1 : decode cX6_back 1 = .ok (.getfield 28, 3) := by decide +kernel
theorem dX6_back_4 : decode cX6_back 4 = .ok (.ifCond .le 15, 3) := by decide +kernel
theorem dX6_back_7 : decode cX6_back 7 = .ok (.aload_n 0, 1) := by decide +kernel
theorem dX6_back_8 : decode cX6_back 8 = .ok (.getfield 28, 3) := by decide +kernel
theorem dX6_back_11 : decode cX6_back 11 = .ok (.aload_n 0, 1) := by decide +kernel
theorem dX6_back_12 : decode cX6_back 12 = .ok (.getfield 24, 3) := by decide +kernel
theorem dX6_back_15 : decode cX6_back 15 = .ok (.arraylength, 1) := by decide +kernel
theorem dX6_back_16 : decode cX6_back 16 = .ok (.if_icmp .le 10, 3) := by decide +kernel
theorem dX6_back_19 : decode cX6_back 19 = .ok (.aload_n 0, 1) := by decide +kernel
theorem dX6_back_20 : decode cX6_back 20 = .ok (.bipush (-3), 2) := by decide +kernel
theorem dX6_back_22 : decode cX6_back 22 = .ok (.invokevirtual 54, 3) := by decide +kernel
theorem dX6_back_25 : decode cX6_back 25 = .ok (.ireturn, 1) := by decide +kernel
theorem dX6_back_26 : decode cX6_back 26 = .ok (.aload_n 0, 1) := by decide +kernel
theorem dX6_back_27 : decode cX6_back 27 = .ok (.dup, 1) := by decide +kernel
theorem dX6_back_28 : decode cX6_back 28 = .ok (.getfield 28, 3) := by decide +kernel
theorem dX6_back_31 : decode cX6_back 31 = .ok (.iconst 1, 1) := by decide +kernel
theorem dX6_back_32 : decode cX6_back 32 = .ok (.isub, 1) := by decide +kernel
theorem dX6_back_33 : decode cX6_back 33 = .ok (.putfield 28, 3) := by decide +kernel
theorem dX6_back_36 : decode cX6_back 36 = .ok (.aload_n 0, 1) := by decide +kernel
theorem dX6_back_37 : decode cX6_back 37 = .ok (.getfield 24, 3) := by decide +kernel
theorem dX6_back_40 : decode cX6_back 40 = .ok (.aload_n 0, 1) := by decide +kernel
theorem dX6_back_41 : decode cX6_back 41 = .ok (.getfield 28, 3) := by decide +kernel
theorem dX6_back_44 : decode cX6_back 44 = .ok (.aaload, 1) := by decide +kernel
theorem dX6_back_45 : decode cX6_back 45 = .ok (.astore_n 1, 1) := by decide +kernel
theorem dX6_back_46 : decode cX6_back 46 = .ok (.aload_n 0, 1) := by decide +kernel
theorem dX6_back_47 : decode cX6_back 47 = .ok (.getfield 24, 3) := by decide +kernel
theorem dX6_back_50 : decode cX6_back 50 = .ok (.aload_n 0, 1) := by decide +kernel
theorem dX6_back_51 : decode cX6_back 51 = .ok (.getfield 28, 3) := by decide +kernel
theorem dX6_back_54 : decode cX6_back 54 = .ok (.aload_n 0, 1) := by decide +kernel
theorem dX6_back_55 : decode cX6_back 55 = .ok (.getfield 47, 3) := by decide +kernel
theorem dX6_back_58 : decode cX6_back 58 = .ok (.aastore, 1) := by decide +kernel
theorem dX6_back_59 : decode cX6_back 59 = .ok (.aload_n 0, 1) := by decide +kernel
theorem dX6_back_60 : decode cX6_back 60 = .ok (.aload_n 1, 1) := by decide +kernel
theorem dX6_back_61 : decode cX6_back 61 = .ok (.putfield 47, 3) := by decide +kernel
theorem dX6_back_64 : decode cX6_back 64 = .ok (.aload_n 0, 1) := by decide +kernel
theorem dX6_back_65 : decode cX6_back 65 = .ok (.getfield 28, 3) := by decide +kernel
theorem dX6_back_68 : decode cX6_back 68 = .ok (.ireturn, 1) := by decide +kernel
theorem dX6_told_0 : decode cX6_told 0 = .ok (.iload_n 1, 1) := by decide +kernel
theorem dX6_told_1 : decode cX6_told 1 = .ok (.tableswitch 63 0 4 #[35, 40, 45, 50, 58], 35) := by decide +kernel
theorem dX6_told_36 : decode cX6_told 36 = .ok (.aload_n 0, 1) := by decide +kernel
theorem dX6_told_37 : decode cX6_told 37 = .ok (.getfield 32, 3) := by decide +kernel
theorem dX6_told_40 : decode cX6_told 40 = .ok (.ireturn, 1) := by decide +kernel
theorem dX6_told_41 : decode cX6_told 41 = .ok (.aload_n 0, 1) := by decide +kernel
theorem dX6_told_42 : decode cX6_told 42 = .ok (.getfield 35, 3) := by decide +kernel
theorem dX6_told_45 : decode cX6_told 45 = .ok (.ireturn, 1) := by decide +kernel
theorem dX6_told_46 : decode cX6_told 46 = .ok (.aload_n 0, 1) := by decide +kernel
theorem dX6_told_47 : decode cX6_told 47 = .ok (.getfield 38, 3) := by decide +kernel
theorem dX6_told_50 : decode cX6_told 50 = .ok (.ireturn, 1) := by decide +kernel
theorem dX6_told_51 : decode cX6_told 51 = .ok (.aload_n 0, 1) := by decide +kernel
theorem dX6_told_52 : decode cX6_told 52 = .ok (.getfield 14, 3) := by decide +kernel
theorem dX6_told_55 : decode cX6_told 55 = .ok (.invokevirtual 58, 3) := by decide +kernel
theorem dX6_told_58 : decode cX6_told 58 = .ok (.ireturn, 1) := by decide +kernel
theorem dX6_told_59 : decode cX6_told 59 = .ok (.aload_n 0, 1) := by decide +kernel
theorem dX6_told_60 : decode cX6_told 60 = .ok (.getfield 28, 3) := by decide +kernel
theorem dX6_told_63 : decode cX6_told 63 = .ok (.ireturn, 1) := by decide +kernel
theorem dX6_told_64 : decode cX6_told 64 = .ok (.aload_n 0, 1) := by decide +kernel
theorem dX6_told_65 : decode cX6_told 65 = .ok (.bipush (-2), 2) := by decide +kernel
theorem dX6_told_67 : decode cX6_told 67 = .ok (.invokevirtual 54, 3) := by decide +kernel
theorem dX6_told_70 : decode cX6_told 70 = .ok (.ireturn, 1) := by decide +kernel
theorem dX6_digest_0 : decode cX6_digest 0 = .ok (.ldc2_w 216, 3) := by decide +kernel
theorem dX6_digest_3 : decode cX6_digest 3 = .ok (.lstore_n 1, 1) := by decide +kernel
theorem dX6_digest_4 : decode cX6_digest 4 = .ok (.iconst 0, 1) := by decide +kernel
theorem dX6_digest_5 : decode cX6_digest 5 = .ok (.istore_n 3, 1) := by decide +kernel
theorem dX6_digest_6 : decode cX6_digest 6 = .ok (.iload_n 3, 1) := by decide +kernel
theorem dX6_digest_7 : decode cX6_digest 7 = .ok (.iconst 4, 1) := by decide +kernel
theorem dX6_digest_8 : decode cX6_digest 8 = .ok (.if_icmp .gt 22, 3) := by decide +kernel
theorem dX6_digest_11 : decode cX6_digest 11 = .ok (.ldc2_w 218, 3) := by decide +kernel
theorem dX6_digest_14 : decode cX6_digest 14 = .ok (.lload_n 1, 1) := by decide +kernel
theorem dX6_digest_15 : decode cX6_digest 15 = .ok (.lmul, 1) := by decide +kernel
theorem dX6_digest_16 : decode cX6_digest 16 = .ok (.aload_n 0, 1) := by decide +kernel
theorem dX6_digest_17 : decode cX6_digest 17 = .ok (.iload_n 3, 1) := by decide +kernel
theorem dX6_digest_18 : decode cX6_digest 18 = .ok (.invokevirtual 220, 3) := by decide +kernel
theorem dX6_digest_21 : decode cX6_digest 21 = .ok (.i2l, 1) := by decide +kernel
theorem dX6_digest_22 : decode cX6_digest 22 = .ok (.ladd, 1) := by decide +kernel
theorem dX6_digest_23 : decode cX6_digest 23 = .ok (.lstore_n 1, 1) := by decide +kernel
theorem dX6_digest_24 : decode cX6_digest 24 = .ok (.iinc 3 1, 3) := by decide +kernel
theorem dX6_digest_27 : decode cX6_digest 27 = .ok (.goto (-21), 3) := by decide +kernel
theorem dX6_digest_30 : decode cX6_digest 30 = .ok (.iconst 0, 1) := by decide +kernel
theorem dX6_digest_31 : decode cX6_digest 31 = .ok (.istore_n 3, 1) := by decide +kernel
theorem dX6_digest_32 : decode cX6_digest 32 = .ok (.iload_n 3, 1) := by decide +kernel
theorem dX6_digest_33 : decode cX6_digest 33 = .ok (.iconst 5, 1) := by decide +kernel
theorem dX6_digest_34 : decode cX6_digest 34 = .ok (.if_icmp .gt 22, 3) := by decide +kernel
theorem dX6_digest_37 : decode cX6_digest 37 = .ok (.ldc2_w 218, 3) := by decide +kernel
theorem dX6_digest_40 : decode cX6_digest 40 = .ok (.lload_n 1, 1) := by decide +kernel
theorem dX6_digest_41 : decode cX6_digest 41 = .ok (.lmul, 1) := by decide +kernel
theorem dX6_digest_42 : decode cX6_digest 42 = .ok (.aload_n 0, 1) := by decide +kernel
theorem dX6_digest_43 : decode cX6_digest 43 = .ok (.iload_n 3, 1) := by decide +kernel
theorem dX6_digest_44 : decode cX6_digest 44 = .ok (.invokevirtual 223, 3) := by decide +kernel
theorem dX6_digest_47 : decode cX6_digest 47 = .ok (.i2l, 1) := by decide +kernel
theorem dX6_digest_48 : decode cX6_digest 48 = .ok (.ladd, 1) := by decide +kernel
theorem dX6_digest_49 : decode cX6_digest 49 = .ok (.lstore_n 1, 1) := by decide +kernel
theorem dX6_digest_50 : decode cX6_digest 50 = .ok (.iinc 3 1, 3) := by decide +kernel
theorem dX6_digest_53 : decode cX6_digest 53 = .ok (.goto (-21), 3) := by decide +kernel
theorem dX6_digest_56 : decode cX6_digest 56 = .ok (.iconst 0, 1) := by decide +kernel
theorem dX6_digest_57 : decode cX6_digest 57 = .ok (.istore_n 3, 1) := by decide +kernel
theorem dX6_digest_58 : decode cX6_digest 58 = .ok (.iload_n 3, 1) := by decide +kernel
theorem dX6_digest_59 : decode cX6_digest 59 = .ok (.aload_n 0, 1) := by decide +kernel
theorem dX6_digest_60 : decode cX6_digest 60 = .ok (.getfield 47, 3) := by decide +kernel
theorem dX6_digest_63 : decode cX6_digest 63 = .ok (.getfield 131, 3) := by decide +kernel
theorem dX6_digest_66 : decode cX6_digest 66 = .ok (.invokevirtual 58, 3) := by decide +kernel
theorem dX6_digest_69 : decode cX6_digest 69 = .ok (.if_icmp .ge 28, 3) := by decide +kernel
theorem dX6_digest_72 : decode cX6_digest 72 = .ok (.ldc2_w 218, 3) := by decide +kernel
theorem dX6_digest_75 : decode cX6_digest 75 = .ok (.lload_n 1, 1) := by decide +kernel
theorem dX6_digest_76 : decode cX6_digest 76 = .ok (.lmul, 1) := by decide +kernel
theorem dX6_digest_77 : decode cX6_digest 77 = .ok (.aload_n 0, 1) := by decide +kernel
theorem dX6_digest_78 : decode cX6_digest 78 = .ok (.getfield 47, 3) := by decide +kernel
theorem dX6_digest_81 : decode cX6_digest 81 = .ok (.getfield 131, 3) := by decide +kernel
theorem dX6_digest_84 : decode cX6_digest 84 = .ok (.iload_n 3, 1) := by decide +kernel
theorem dX6_digest_85 : decode cX6_digest 85 = .ok (.invokevirtual 166, 3) := by decide +kernel
theorem dX6_digest_88 : decode cX6_digest 88 = .ok (.i2l, 1) := by decide +kernel
theorem dX6_digest_89 : decode cX6_digest 89 = .ok (.ladd, 1) := by decide +kernel
theorem dX6_digest_90 : decode cX6_digest 90 = .ok (.lstore_n 1, 1) := by decide +kernel
theorem dX6_digest_91 : decode cX6_digest 91 = .ok (.iinc 3 1, 3) := by decide +kernel
theorem dX6_digest_94 : decode cX6_digest 94 = .ok (.goto (-36), 3) := by decide +kernel
theorem dX6_digest_97 : decode cX6_digest 97 = .ok (.aload_n 0, 1) := by decide +kernel
theorem dX6_digest_98 : decode cX6_digest 98 = .ok (.getfield 47, 3) := by decide +kernel
theorem dX6_digest_101 : decode cX6_digest 101 = .ok (.getfield 99, 3) := by decide +kernel
theorem dX6_digest_104 : decode cX6_digest 104 = .ok (.ifCond .le 47, 3) := by decide +kernel
theorem dX6_digest_107 : decode cX6_digest 107 = .ok (.iconst 0, 1) := by decide +kernel
theorem dX6_digest_108 : decode cX6_digest 108 = .ok (.istore_n 3, 1) := by decide +kernel
theorem dX6_digest_109 : decode cX6_digest 109 = .ok (.iload_n 3, 1) := by decide +kernel
theorem dX6_digest_110 : decode cX6_digest 110 = .ok (.bipush 10, 2) := by decide +kernel
theorem dX6_digest_112 : decode cX6_digest 112 = .ok (.if_icmp .ge 39, 3) := by decide +kernel
theorem dX6_digest_115 : decode cX6_digest 115 = .ok (.iconst 0, 1) := by decide +kernel
theorem dX6_digest_116 : decode cX6_digest 116 = .ok (.istore 4, 2) := by decide +kernel
theorem dX6_digest_118 : decode cX6_digest 118 = .ok (.iload 4, 2) := by decide +kernel
theorem dX6_digest_120 : decode cX6_digest 120 = .ok (.iconst 4, 1) := by decide +kernel
theorem dX6_digest_121 : decode cX6_digest 121 = .ok (.if_icmp .gt 24, 3) := by decide +kernel
theorem dX6_digest_124 : decode cX6_digest 124 = .ok (.ldc2_w 218, 3) := by decide +kernel
theorem dX6_digest_127 : decode cX6_digest 127 = .ok (.lload_n 1, 1) := by decide +kernel
theorem dX6_digest_128 : decode cX6_digest 128 = .ok (.lmul, 1) := by decide +kernel
theorem dX6_digest_129 : decode cX6_digest 129 = .ok (.aload_n 0, 1) := by decide +kernel
theorem dX6_digest_130 : decode cX6_digest 130 = .ok (.iload_n 3, 1) := by decide +kernel
theorem dX6_digest_131 : decode cX6_digest 131 = .ok (.iload 4, 2) := by decide +kernel
theorem dX6_digest_133 : decode cX6_digest 133 = .ok (.invokevirtual 226, 3) := by decide +kernel
theorem dX6_digest_136 : decode cX6_digest 136 = .ok (.i2l, 1) := by decide +kernel
theorem dX6_digest_137 : decode cX6_digest 137 = .ok (.ladd, 1) := by decide +kernel
theorem dX6_digest_138 : decode cX6_digest 138 = .ok (.lstore_n 1, 1) := by decide +kernel
theorem dX6_digest_139 : decode cX6_digest 139 = .ok (.iinc 4 1, 3) := by decide +kernel
theorem dX6_digest_142 : decode cX6_digest 142 = .ok (.goto (-24), 3) := by decide +kernel
theorem dX6_digest_145 : decode cX6_digest 145 = .ok (.iinc 3 1, 3) := by decide +kernel
theorem dX6_digest_148 : decode cX6_digest 148 = .ok (.goto (-39), 3) := by decide +kernel
theorem dX6_digest_151 : decode cX6_digest 151 = .ok (.lload_n 1, 1) := by decide +kernel
theorem dX6_digest_152 : decode cX6_digest 152 = .ok (.lreturn, 1) := by decide +kernel
theorem dX6_refuse_0 : decode cX6_refuse 0 = .ok (.iload_n 1, 1) := by decide +kernel
theorem dX6_refuse_1 : decode cX6_refuse 1 = .ok (.bipush (-2), 2) := by decide +kernel
theorem dX6_refuse_3 : decode cX6_refuse 3 = .ok (.if_icmp .ne 16, 3) := by decide +kernel
theorem dX6_refuse_6 : decode cX6_refuse 6 = .ok (.aload_n 0, 1) := by decide +kernel
theorem dX6_refuse_7 : decode cX6_refuse 7 = .ok (.dup, 1) := by decide +kernel
theorem dX6_refuse_8 : decode cX6_refuse 8 = .ok (.getfield 32, 3) := by decide +kernel
theorem dX6_refuse_11 : decode cX6_refuse 11 = .ok (.iconst 1, 1) := by decide +kernel
theorem dX6_refuse_12 : decode cX6_refuse 12 = .ok (.iadd, 1) := by decide +kernel
theorem dX6_refuse_13 : decode cX6_refuse 13 = .ok (.putfield 32, 3) := by decide +kernel
theorem dX6_refuse_16 : decode cX6_refuse 16 = .ok (.goto 38, 3) := by decide +kernel
theorem dX6_refuse_19 : decode cX6_refuse 19 = .ok (.iload_n 1, 1) := by decide +kernel
theorem dX6_refuse_20 : decode cX6_refuse 20 = .ok (.bipush (-3), 2) := by decide +kernel
theorem dX6_refuse_22 : decode cX6_refuse 22 = .ok (.if_icmp .ne 16, 3) := by decide +kernel
theorem dX6_refuse_25 : decode cX6_refuse 25 = .ok (.aload_n 0, 1) := by decide +kernel
theorem dX6_refuse_26 : decode cX6_refuse 26 = .ok (.dup, 1) := by decide +kernel
theorem dX6_refuse_27 : decode cX6_refuse 27 = .ok (.getfield 35, 3) := by decide +kernel
theorem dX6_refuse_30 : decode cX6_refuse 30 = .ok (.iconst 1, 1) := by decide +kernel
theorem dX6_refuse_31 : decode cX6_refuse 31 = .ok (.iadd, 1) := by decide +kernel
theorem dX6_refuse_32 : decode cX6_refuse 32 = .ok (.putfield 35, 3) := by decide +kernel
theorem dX6_refuse_35 : decode cX6_refuse 35 = .ok (.goto 19, 3) := by decide +kernel
theorem dX6_refuse_38 : decode cX6_refuse 38 = .ok (.iload_n 1, 1) := by decide +kernel
theorem dX6_refuse_39 : decode cX6_refuse 39 = .ok (.bipush (-4), 2) := by decide +kernel
theorem dX6_refuse_41 : decode cX6_refuse 41 = .ok (.if_icmp .ne 13, 3) := by decide +kernel
theorem dX6_refuse_44 : decode cX6_refuse 44 = .ok (.aload_n 0, 1) := by decide +kernel
theorem dX6_refuse_45 : decode cX6_refuse 45 = .ok (.dup, 1) := by decide +kernel
theorem dX6_refuse_46 : decode cX6_refuse 46 = .ok (.getfield 38, 3) := by decide +kernel
theorem dX6_refuse_49 : decode cX6_refuse 49 = .ok (.iconst 1, 1) := by decide +kernel
theorem dX6_refuse_50 : decode cX6_refuse 50 = .ok (.iadd, 1) := by decide +kernel
theorem dX6_refuse_51 : decode cX6_refuse 51 = .ok (.putfield 38, 3) := by decide +kernel
theorem dX6_refuse_54 : decode cX6_refuse 54 = .ok (.iload_n 1, 1) := by decide +kernel
theorem dX6_refuse_55 : decode cX6_refuse 55 = .ok (.ireturn, 1) := by decide +kernel
theorem dX6_lands_0 : decode cX6_lands 0 = .ok (.aload_n 0, 1) := by decide +kernel
theorem dX6_lands_1 : decode cX6_lands 1 = .ok (.getfield 51, 3) := by decide +kernel
theorem dX6_lands_4 : decode cX6_lands 4 = .ok (.invokevirtual 110, 3) := by decide +kernel
theorem dX6_lands_7 : decode cX6_lands 7 = .ok (.ifCond .ne 5, 3) := by decide +kernel
theorem dX6_lands_10 : decode cX6_lands 10 = .ok (.iconst 0, 1) := by decide +kernel
theorem dX6_lands_11 : decode cX6_lands 11 = .ok (.ireturn, 1) := by decide +kernel
theorem dX6_lands_12 : decode cX6_lands 12 = .ok (.aload_n 0, 1) := by decide +kernel
theorem dX6_lands_13 : decode cX6_lands 13 = .ok (.getfield 24, 3) := by decide +kernel
theorem dX6_lands_16 : decode cX6_lands 16 = .ok (.iconst 0, 1) := by decide +kernel
theorem dX6_lands_17 : decode cX6_lands 17 = .ok (.aaload, 1) := by decide +kernel
theorem dX6_lands_18 : decode cX6_lands 18 = .ok (.astore_n 1, 1) := by decide +kernel
theorem dX6_lands_19 : decode cX6_lands 19 = .ok (.aload_n 0, 1) := by decide +kernel
theorem dX6_lands_20 : decode cX6_lands 20 = .ok (.getfield 28, 3) := by decide +kernel
theorem dX6_lands_23 : decode cX6_lands 23 = .ok (.aload_n 0, 1) := by decide +kernel
theorem dX6_lands_24 : decode cX6_lands 24 = .ok (.getfield 24, 3) := by decide +kernel
theorem dX6_lands_27 : decode cX6_lands 27 = .ok (.arraylength, 1) := by decide +kernel
theorem dX6_lands_28 : decode cX6_lands 28 = .ok (.if_icmp .ge 39, 3) := by decide +kernel
theorem dX6_lands_31 : decode cX6_lands 31 = .ok (.aload_n 0, 1) := by decide +kernel
theorem dX6_lands_32 : decode cX6_lands 32 = .ok (.getfield 24, 3) := by decide +kernel
theorem dX6_lands_35 : decode cX6_lands 35 = .ok (.aload_n 0, 1) := by decide +kernel
theorem dX6_lands_36 : decode cX6_lands 36 = .ok (.getfield 28, 3) := by decide +kernel
theorem dX6_lands_39 : decode cX6_lands 39 = .ok (.aaload, 1) := by decide +kernel
theorem dX6_lands_40 : decode cX6_lands 40 = .ok (.astore_n 1, 1) := by decide +kernel
theorem dX6_lands_41 : decode cX6_lands 41 = .ok (.aload_n 0, 1) := by decide +kernel
theorem dX6_lands_42 : decode cX6_lands 42 = .ok (.getfield 24, 3) := by decide +kernel
theorem dX6_lands_45 : decode cX6_lands 45 = .ok (.aload_n 0, 1) := by decide +kernel
theorem dX6_lands_46 : decode cX6_lands 46 = .ok (.getfield 28, 3) := by decide +kernel
theorem dX6_lands_49 : decode cX6_lands 49 = .ok (.aload_n 0, 1) := by decide +kernel
theorem dX6_lands_50 : decode cX6_lands 50 = .ok (.getfield 47, 3) := by decide +kernel
theorem dX6_lands_53 : decode cX6_lands 53 = .ok (.aastore, 1) := by decide +kernel
theorem dX6_lands_54 : decode cX6_lands 54 = .ok (.aload_n 0, 1) := by decide +kernel
theorem dX6_lands_55 : decode cX6_lands 55 = .ok (.dup, 1) := by decide +kernel
theorem dX6_lands_56 : decode cX6_lands 56 = .ok (.getfield 28, 3) := by decide +kernel
theorem dX6_lands_59 : decode cX6_lands 59 = .ok (.iconst 1, 1) := by decide +kernel
theorem dX6_lands_60 : decode cX6_lands 60 = .ok (.iadd, 1) := by decide +kernel
theorem dX6_lands_61 : decode cX6_lands 61 = .ok (.putfield 28, 3) := by decide +kernel
theorem dX6_lands_64 : decode cX6_lands 64 = .ok (.goto 50, 3) := by decide +kernel
theorem dX6_lands_67 : decode cX6_lands 67 = .ok (.iconst 1, 1) := by decide +kernel
theorem dX6_lands_68 : decode cX6_lands 68 = .ok (.istore_n 2, 1) := by decide +kernel
theorem dX6_lands_69 : decode cX6_lands 69 = .ok (.iload_n 2, 1) := by decide +kernel
theorem dX6_lands_70 : decode cX6_lands 70 = .ok (.aload_n 0, 1) := by decide +kernel
theorem dX6_lands_71 : decode cX6_lands 71 = .ok (.getfield 24, 3) := by decide +kernel
theorem dX6_lands_74 : decode cX6_lands 74 = .ok (.arraylength, 1) := by decide +kernel
theorem dX6_lands_75 : decode cX6_lands 75 = .ok (.if_icmp .ge 23, 3) := by decide +kernel
theorem dX6_lands_78 : decode cX6_lands 78 = .ok (.aload_n 0, 1) := by decide +kernel
theorem dX6_lands_79 : decode cX6_lands 79 = .ok (.getfield 24, 3) := by decide +kernel
theorem dX6_lands_82 : decode cX6_lands 82 = .ok (.iload_n 2, 1) := by decide +kernel
theorem dX6_lands_83 : decode cX6_lands 83 = .ok (.iconst 1, 1) := by decide +kernel
theorem dX6_lands_84 : decode cX6_lands 84 = .ok (.isub, 1) := by decide +kernel
theorem dX6_lands_85 : decode cX6_lands 85 = .ok (.aload_n 0, 1) := by decide +kernel
theorem dX6_lands_86 : decode cX6_lands 86 = .ok (.getfield 24, 3) := by decide +kernel
theorem dX6_lands_89 : decode cX6_lands 89 = .ok (.iload_n 2, 1) := by decide +kernel
theorem dX6_lands_90 : decode cX6_lands 90 = .ok (.aaload, 1) := by decide +kernel
theorem dX6_lands_91 : decode cX6_lands 91 = .ok (.aastore, 1) := by decide +kernel
theorem dX6_lands_92 : decode cX6_lands 92 = .ok (.iinc 2 1, 3) := by decide +kernel
theorem dX6_lands_95 : decode cX6_lands 95 = .ok (.goto (-26), 3) := by decide +kernel
theorem dX6_lands_98 : decode cX6_lands 98 = .ok (.aload_n 0, 1) := by decide +kernel
theorem dX6_lands_99 : decode cX6_lands 99 = .ok (.getfield 24, 3) := by decide +kernel
theorem dX6_lands_102 : decode cX6_lands 102 = .ok (.aload_n 0, 1) := by decide +kernel
theorem dX6_lands_103 : decode cX6_lands 103 = .ok (.getfield 24, 3) := by decide +kernel
theorem dX6_lands_106 : decode cX6_lands 106 = .ok (.arraylength, 1) := by decide +kernel
theorem dX6_lands_107 : decode cX6_lands 107 = .ok (.iconst 1, 1) := by decide +kernel
theorem dX6_lands_108 : decode cX6_lands 108 = .ok (.isub, 1) := by decide +kernel
theorem dX6_lands_109 : decode cX6_lands 109 = .ok (.aload_n 0, 1) := by decide +kernel
theorem dX6_lands_110 : decode cX6_lands 110 = .ok (.getfield 47, 3) := by decide +kernel
theorem dX6_lands_113 : decode cX6_lands 113 = .ok (.aastore, 1) := by decide +kernel
theorem dX6_lands_114 : decode cX6_lands 114 = .ok (.aload_n 0, 1) := by decide +kernel
theorem dX6_lands_115 : decode cX6_lands 115 = .ok (.aload_n 0, 1) := by decide +kernel
theorem dX6_lands_116 : decode cX6_lands 116 = .ok (.getfield 51, 3) := by decide +kernel
theorem dX6_lands_119 : decode cX6_lands 119 = .ok (.putfield 47, 3) := by decide +kernel
theorem dX6_lands_122 : decode cX6_lands 122 = .ok (.aload_n 0, 1) := by decide +kernel
theorem dX6_lands_123 : decode cX6_lands 123 = .ok (.aload_n 1, 1) := by decide +kernel
theorem dX6_lands_124 : decode cX6_lands 124 = .ok (.putfield 51, 3) := by decide +kernel
theorem dX6_lands_127 : decode cX6_lands 127 = .ok (.iconst 1, 1) := by decide +kernel
theorem dX6_lands_128 : decode cX6_lands 128 = .ok (.ireturn, 1) := by decide +kernel
theorem dX6_isShown_0 : decode cX6_isShown 0 = .ok (.iload_n 0, 1) := by decide +kernel
theorem dX6_isShown_1 : decode cX6_isShown 1 = .ok (.bipush 32, 2) := by decide +kernel
theorem dX6_isShown_3 : decode cX6_isShown 3 = .ok (.if_icmp .lt 13, 3) := by decide +kernel
theorem dX6_isShown_6 : decode cX6_isShown 6 = .ok (.iload_n 0, 1) := by decide +kernel
theorem dX6_isShown_7 : decode cX6_isShown 7 = .ok (.bipush 126, 2) := by decide +kernel
theorem dX6_isShown_9 : decode cX6_isShown 9 = .ok (.if_icmp .gt 7, 3) := by decide +kernel
theorem dX6_isShown_12 : decode cX6_isShown 12 = .ok (.iconst 1, 1) := by decide +kernel
theorem dX6_isShown_13 : decode cX6_isShown 13 = .ok (.goto 4, 3) := by decide +kernel
theorem dX6_isShown_16 : decode cX6_isShown 16 = .ok (.iconst 0, 1) := by decide +kernel
theorem dX6_isShown_17 : decode cX6_isShown 17 = .ok (.ireturn, 1) := by decide +kernel
theorem dX6_isStop_0 : decode cX6_isStop 0 = .ok (.iload_n 0, 1) := by decide +kernel
theorem dX6_isStop_1 : decode cX6_isStop 1 = .ok (.ifCond .lt 13, 3) := by decide +kernel
theorem dX6_isStop_4 : decode cX6_isStop 4 = .ok (.iload_n 0, 1) := by decide +kernel
theorem dX6_isStop_5 : decode cX6_isStop 5 = .ok (.bipush 10, 2) := by decide +kernel
theorem dX6_isStop_7 : decode cX6_isStop 7 = .ok (.if_icmp .ge 7, 3) := by decide +kernel
theorem dX6_isStop_10 : decode cX6_isStop 10 = .ok (.iconst 1, 1) := by decide +kernel
theorem dX6_isStop_11 : decode cX6_isStop 11 = .ok (.goto 4, 3) := by decide +kernel
theorem dX6_isStop_14 : decode cX6_isStop 14 = .ok (.iconst 0, 1) := by decide +kernel
theorem dX6_isStop_15 : decode cX6_isStop 15 = .ok (.ireturn, 1) := by decide +kernel
theorem dX6_isVariable_0 : decode cX6_isVariable 0 = .ok (.iload_n 0, 1) := by decide +kernel
theorem dX6_isVariable_1 : decode cX6_isVariable 1 = .ok (.ifCond .lt 12, 3) := by decide +kernel
theorem dX6_isVariable_4 : decode cX6_isVariable 4 = .ok (.iload_n 0, 1) := by decide +kernel
theorem dX6_isVariable_5 : decode cX6_isVariable 5 = .ok (.iconst 4, 1) := by decide +kernel
theorem dX6_isVariable_6 : decode cX6_isVariable 6 = .ok (.if_icmp .ge 7, 3) := by decide +kernel
theorem dX6_isVariable_9 : decode cX6_isVariable 9 = .ok (.iconst 1, 1) := by decide +kernel
theorem dX6_isVariable_10 : decode cX6_isVariable 10 = .ok (.goto 4, 3) := by decide +kernel
theorem dX6_isVariable_13 : decode cX6_isVariable 13 = .ok (.iconst 0, 1) := by decide +kernel
theorem dX6_isVariable_14 : decode cX6_isVariable 14 = .ok (.ireturn, 1) := by decide +kernel
theorem dX6_canBeVariable_0 : decode cX6_canBeVariable 0 = .ok (.aload_n 0, 1) := by decide +kernel
theorem dX6_canBeVariable_1 : decode cX6_canBeVariable 1 = .ok (.invokevirtual 58, 3) := by decide +kernel
theorem dX6_canBeVariable_4 : decode cX6_canBeVariable 4 = .ok (.bipush 12, 2) := by decide +kernel
theorem dX6_canBeVariable_6 : decode cX6_canBeVariable 6 = .ok (.if_icmp .le 5, 3) := by decide +kernel
theorem dX6_canBeVariable_9 : decode cX6_canBeVariable 9 = .ok (.iconst 0, 1) := by decide +kernel
theorem dX6_canBeVariable_10 : decode cX6_canBeVariable 10 = .ok (.ireturn, 1) := by decide +kernel
theorem dX6_canBeVariable_11 : decode cX6_canBeVariable 11 = .ok (.iconst 0, 1) := by decide +kernel
theorem dX6_canBeVariable_12 : decode cX6_canBeVariable 12 = .ok (.istore_n 1, 1) := by decide +kernel
theorem dX6_canBeVariable_13 : decode cX6_canBeVariable 13 = .ok (.iload_n 1, 1) := by decide +kernel
theorem dX6_canBeVariable_14 : decode cX6_canBeVariable 14 = .ok (.aload_n 0, 1) := by decide +kernel
theorem dX6_canBeVariable_15 : decode cX6_canBeVariable 15 = .ok (.invokevirtual 58, 3) := by decide +kernel
theorem dX6_canBeVariable_18 : decode cX6_canBeVariable 18 = .ok (.if_icmp .ge 22, 3) := by decide +kernel
theorem dX6_canBeVariable_21 : decode cX6_canBeVariable 21 = .ok (.aload_n 0, 1) := by decide +kernel
theorem dX6_canBeVariable_22 : decode cX6_canBeVariable 22 = .ok (.iload_n 1, 1) := by decide +kernel
theorem dX6_canBeVariable_23 : decode cX6_canBeVariable 23 = .ok (.invokevirtual 166, 3) := by decide +kernel
theorem dX6_canBeVariable_26 : decode cX6_canBeVariable 26 = .ok (.invokestatic 116, 3) := by decide +kernel
theorem dX6_canBeVariable_29 : decode cX6_canBeVariable 29 = .ok (.ifCond .ne 5, 3) := by decide +kernel
theorem dX6_canBeVariable_32 : decode cX6_canBeVariable 32 = .ok (.iconst 0, 1) := by decide +kernel
theorem dX6_canBeVariable_33 : decode cX6_canBeVariable 33 = .ok (.ireturn, 1) := by decide +kernel
theorem dX6_canBeVariable_34 : decode cX6_canBeVariable 34 = .ok (.iinc 1 1, 3) := by decide +kernel
theorem dX6_canBeVariable_37 : decode cX6_canBeVariable 37 = .ok (.goto (-24), 3) := by decide +kernel
theorem dX6_canBeVariable_40 : decode cX6_canBeVariable 40 = .ok (.iconst 1, 1) := by decide +kernel
theorem dX6_canBeVariable_41 : decode cX6_canBeVariable 41 = .ok (.ireturn, 1) := by decide +kernel
