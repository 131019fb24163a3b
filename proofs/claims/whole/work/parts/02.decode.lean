theorem dX0_init_0 : decode cX0_init 0 = .ok (.aload_n 0, 1) := by decide +kernel
theorem dX0_init_1 : decode cX0_init 1 = .ok (.invokespecial 3, 3) := by decide +kernel
theorem dX0_init_4 : decode cX0_init 4 = .ok (.aload_n 0, 1) := by decide +kernel
theorem dX0_init_5 : decode cX0_init 5 = .ok (.bipush 24, 2) := by decide +kernel
theorem dX0_init_7 : decode cX0_init 7 = .ok (.newarray .int, 2) := by decide +kernel
theorem dX0_init_9 : decode cX0_init 9 = .ok (.putfield 9, 3) := by decide +kernel
theorem dX0_init_12 : decode cX0_init 12 = .ok (.aload_n 0, 1) := by decide +kernel
theorem dX0_init_13 : decode cX0_init 13 = .ok (.bipush 24, 2) := by decide +kernel
theorem dX0_init_15 : decode cX0_init 15 = .ok (.newarray .int, 2) := by decide +kernel
theorem dX0_init_17 : decode cX0_init 17 = .ok (.putfield 15, 3) := by decide +kernel
theorem dX0_init_20 : decode cX0_init 20 = .ok (.aload_n 0, 1) := by decide +kernel
theorem dX0_init_21 : decode cX0_init 21 = .ok (.bipush 24, 2) := by decide +kernel
theorem dX0_init_23 : decode cX0_init 23 = .ok (.newarray .int, 2) := by decide +kernel
theorem dX0_init_25 : decode cX0_init 25 = .ok (.putfield 18, 3) := by decide +kernel
theorem dX0_init_28 : decode cX0_init 28 = .ok (.aload_n 0, 1) := by decide +kernel
theorem dX0_init_29 : decode cX0_init 29 = .ok (.bipush 24, 2) := by decide +kernel
theorem dX0_init_31 : decode cX0_init 31 = .ok (.newarray .int, 2) := by decide +kernel
theorem dX0_init_33 : decode cX0_init 33 = .ok (.putfield 21, 3) := by decide +kernel
theorem dX0_init_36 : decode cX0_init 36 = .ok (.aload_n 0, 1) := by decide +kernel
theorem dX0_init_37 : decode cX0_init 37 = .ok (.bipush 24, 2) := by decide +kernel
theorem dX0_init_39 : decode cX0_init 39 = .ok (.newarray .long, 2) := by decide +kernel
theorem dX0_init_41 : decode cX0_init 41 = .ok (.putfield 24, 3) := by decide +kernel
theorem dX0_init_44 : decode cX0_init 44 = .ok (.return_, 1) := by decide +kernel
theorem dX0_holdAs_0 : decode cX0_holdAs 0 = .ok (.aload_n 0, 1) := by decide +kernel
theorem dX0_holdAs_1 : decode cX0_holdAs 1 = .ok (.aload_n 1, 1) := by decide +kernel
theorem dX0_holdAs_2 : decode cX0_holdAs 2 = .ok (.getfield 28, 3) := by decide +kernel
theorem dX0_holdAs_5 : decode cX0_holdAs 5 = .ok (.putfield 28, 3) := by decide +kernel
theorem dX0_holdAs_8 : decode cX0_holdAs 8 = .ok (.iconst 0, 1) := by decide +kernel
theorem dX0_holdAs_9 : decode cX0_holdAs 9 = .ok (.istore_n 2, 1) := by decide +kernel
theorem dX0_holdAs_10 : decode cX0_holdAs 10 = .ok (.iload_n 2, 1) := by decide +kernel
theorem dX0_holdAs_11 : decode cX0_holdAs 11 = .ok (.aload_n 0, 1) := by decide +kernel
theorem dX0_holdAs_12 : decode cX0_holdAs 12 = .ok (.getfield 28, 3) := by decide +kernel
theorem dX0_holdAs_15 : decode cX0_holdAs 15 = .ok (.if_icmp .ge 16, 3) := by decide +kernel
theorem dX0_holdAs_18 : decode cX0_holdAs 18 = .ok (.aload_n 0, 1) := by decide +kernel
theorem dX0_holdAs_19 : decode cX0_holdAs 19 = .ok (.iload_n 2, 1) := by decide +kernel
theorem dX0_holdAs_20 : decode cX0_holdAs 20 = .ok (.aload_n 1, 1) := by decide +kernel
theorem dX0_holdAs_21 : decode cX0_holdAs 21 = .ok (.iload_n 2, 1) := by decide +kernel
theorem dX0_holdAs_22 : decode cX0_holdAs 22 = .ok (.invokevirtual 32, 3) := by decide +kernel
theorem dX0_holdAs_25 : decode cX0_holdAs 25 = .ok (.iinc 2 1, 3) := by decide +kernel
theorem dX0_holdAs_28 : decode cX0_holdAs 28 = .ok (.goto (-18), 3) := by decide +kernel
theorem dX0_holdAs_31 : decode cX0_holdAs 31 = .ok (.return_, 1) := by decide +kernel
theorem dX0_put_0 : decode cX0_put 0 = .ok (.aload_n 0, 1) := by decide +kernel
theorem dX0_put_1 : decode cX0_put 1 = .ok (.getfield 9, 3) := by decide +kernel
theorem dX0_put_4 : decode cX0_put 4 = .ok (.iload_n 1, 1) := by decide +kernel
theorem dX0_put_5 : decode cX0_put 5 = .ok (.aload_n 2, 1) := by decide +kernel
theorem dX0_put_6 : decode cX0_put 6 = .ok (.getfield 9, 3) := by decide +kernel
theorem dX0_put_9 : decode cX0_put 9 = .ok (.iload_n 3, 1) := by decide +kernel
theorem dX0_put_10 : decode cX0_put 10 = .ok (.iaload, 1) := by decide +kernel
theorem dX0_put_11 : decode cX0_put 11 = .ok (.iastore, 1) := by decide +kernel
theorem dX0_put_12 : decode cX0_put 12 = .ok (.aload_n 0, 1) := by decide +kernel
theorem dX0_put_13 : decode cX0_put 13 = .ok (.getfield 15, 3) := by decide +kernel
theorem dX0_put_16 : decode cX0_put 16 = .ok (.iload_n 1, 1) := by decide +kernel
theorem dX0_put_17 : decode cX0_put 17 = .ok (.aload_n 2, 1) := by decide +kernel
theorem dX0_put_18 : decode cX0_put 18 = .ok (.getfield 15, 3) := by decide +kernel
theorem dX0_put_21 : decode cX0_put 21 = .ok (.iload_n 3, 1) := by decide +kernel
theorem dX0_put_22 : decode cX0_put 22 = .ok (.iaload, 1) := by decide +kernel
theorem dX0_put_23 : decode cX0_put 23 = .ok (.iastore, 1) := by decide +kernel
theorem dX0_put_24 : decode cX0_put 24 = .ok (.aload_n 0, 1) := by decide +kernel
theorem dX0_put_25 : decode cX0_put 25 = .ok (.getfield 18, 3) := by decide +kernel
theorem dX0_put_28 : decode cX0_put 28 = .ok (.iload_n 1, 1) := by decide +kernel
theorem dX0_put_29 : decode cX0_put 29 = .ok (.aload_n 2, 1) := by decide +kernel
theorem dX0_put_30 : decode cX0_put 30 = .ok (.getfield 18, 3) := by decide +kernel
theorem dX0_put_33 : decode cX0_put 33 = .ok (.iload_n 3, 1) := by decide +kernel
theorem dX0_put_34 : decode cX0_put 34 = .ok (.iaload, 1) := by decide +kernel
theorem dX0_put_35 : decode cX0_put 35 = .ok (.iastore, 1) := by decide +kernel
theorem dX0_put_36 : decode cX0_put 36 = .ok (.aload_n 0, 1) := by decide +kernel
theorem dX0_put_37 : decode cX0_put 37 = .ok (.getfield 21, 3) := by decide +kernel
theorem dX0_put_40 : decode cX0_put 40 = .ok (.iload_n 1, 1) := by decide +kernel
theorem dX0_put_41 : decode cX0_put 41 = .ok (.aload_n 2, 1) := by decide +kernel
theorem dX0_put_42 : decode cX0_put 42 = .ok (.getfield 21, 3) := by decide +kernel
theorem dX0_put_45 : decode cX0_put 45 = .ok (.iload_n 3, 1) := by decide +kernel
theorem dX0_put_46 : decode cX0_put 46 = .ok (.iaload, 1) := by decide +kernel
theorem dX0_put_47 : decode cX0_put 47 = .ok (.iastore, 1) := by decide +kernel
theorem dX0_put_48 : decode cX0_put 48 = .ok (.aload_n 0, 1) := by decide +kernel
theorem dX0_put_49 : decode cX0_put 49 = .ok (.getfield 24, 3) := by decide +kernel
theorem dX0_put_52 : decode cX0_put 52 = .ok (.iload_n 1, 1) := by decide +kernel
theorem dX0_put_53 : decode cX0_put 53 = .ok (.aload_n 2, 1) := by decide +kernel
theorem dX0_put_54 : decode cX0_put 54 = .ok (.getfield 24, 3) := by decide +kernel
theorem dX0_put_57 : decode cX0_put 57 = .ok (.iload_n 3, 1) := by decide +kernel
theorem dX0_put_58 : decode cX0_put 58 = .ok (.laload, 1) := by decide +kernel
theorem dX0_put_59 : decode cX0_put 59 = .ok (.lastore, 1) := by decide +kernel
theorem dX0_put_60 : decode cX0_put 60 = .ok (.return_, 1) := by decide +kernel
theorem dX0_isFull_0 : decode cX0_isFull 0 = .ok (.aload_n 0, 1) := by decide +kernel
theorem dX0_isFull_1 : decode cX0_isFull 1 = .ok (.getfield 28, 3) := by decide +kernel
theorem dX0_isFull_4 : decode cX0_isFull 4 = .ok (.bipush 24, 2) := by decide +kernel
theorem dX0_isFull_6 : decode cX0_isFull 6 = .ok (.if_icmp .lt 7, 3) := by decide +kernel
theorem dX0_isFull_9 : decode cX0_isFull 9 = .ok (.iconst 1, 1) := by decide +kernel
theorem dX0_isFull_10 : decode cX0_isFull 10 = .ok (.goto 4, 3) := by decide +kernel
theorem dX0_isFull_13 : decode cX0_isFull 13 = .ok (.iconst 0, 1) := by decide +kernel
theorem dX0_isFull_14 : decode cX0_isFull 14 = .ok (.ireturn, 1) := by decide +kernel
theorem dX0_add_0 : decode cX0_add 0 = .ok (.aload_n 0, 1) := by decide +kernel
theorem dX0_add_1 : decode cX0_add 1 = .ok (.invokevirtual 36, 3) := by decide +kernel
theorem dX0_add_4 : decode cX0_add 4 = .ok (.ifCond .eq 4, 3) := by decide +kernel
theorem dX0_add_7 : decode cX0_add 7 = .ok (.return_, 1) := by decide +kernel
theorem dX0_add_8 : decode cX0_add 8 = .ok (.aload_n 0, 1) := by decide +kernel
theorem dX0_add_9 : decode cX0_add 9 = .ok (.getfield 9, 3) := by decide +kernel
theorem dX0_add_12 : decode cX0_add 12 = .ok (.aload_n 0, 1) := by decide +kernel
theorem dX0_add_13 : decode cX0_add 13 = .ok (.getfield 28, 3) := by decide +kernel
theorem dX0_add_16 : decode cX0_add 16 = .ok (.iload_n 1, 1) := by decide +kernel
theorem dX0_add_17 : decode cX0_add 17 = .ok (.iastore, 1) := by decide +kernel
theorem dX0_add_18 : decode cX0_add 18 = .ok (.aload_n 0, 1) := by decide +kernel
theorem dX0_add_19 : decode cX0_add 19 = .ok (.getfield 15, 3) := by decide +kernel
theorem dX0_add_22 : decode cX0_add 22 = .ok (.aload_n 0, 1) := by decide +kernel
theorem dX0_add_23 : decode cX0_add 23 = .ok (.getfield 28, 3) := by decide +kernel
theorem dX0_add_26 : decode cX0_add 26 = .ok (.iload_n 2, 1) := by decide +kernel
theorem dX0_add_27 : decode cX0_add 27 = .ok (.iastore, 1) := by decide +kernel
theorem dX0_add_28 : decode cX0_add 28 = .ok (.aload_n 0, 1) := by decide +kernel
theorem dX0_add_29 : decode cX0_add 29 = .ok (.getfield 18, 3) := by decide +kernel
theorem dX0_add_32 : decode cX0_add 32 = .ok (.aload_n 0, 1) := by decide +kernel
theorem dX0_add_33 : decode cX0_add 33 = .ok (.getfield 28, 3) := by decide +kernel
theorem dX0_add_36 : decode cX0_add 36 = .ok (.iload_n 3, 1) := by decide +kernel
theorem dX0_add_37 : decode cX0_add 37 = .ok (.iastore, 1) := by decide +kernel
theorem dX0_add_38 : decode cX0_add 38 = .ok (.aload_n 0, 1) := by decide +kernel
theorem dX0_add_39 : decode cX0_add 39 = .ok (.getfield 21, 3) := by decide +kernel
theorem dX0_add_42 : decode cX0_add 42 = .ok (.aload_n 0, 1) := by decide +kernel
theorem dX0_add_43 : decode cX0_add 43 = .ok (.getfield 28, 3) := by decide +kernel
theorem dX0_add_46 : decode cX0_add 46 = .ok (.iload 4, 2) := by decide +kernel
theorem dX0_add_48 : decode cX0_add 48 = .ok (.iastore, 1) := by decide +kernel
theorem dX0_add_49 : decode cX0_add 49 = .ok (.aload_n 0, 1) := by decide +kernel
theorem dX0_add_50 : decode cX0_add 50 = .ok (.getfield 24, 3) := by decide +kernel
theorem dX0_add_53 : decode cX0_add 53 = .ok (.aload_n 0, 1) := by decide +kernel
theorem dX0_add_54 : decode cX0_add 54 = .ok (.getfield 28, 3) := by decide +kernel
theorem dX0_add_57 : decode cX0_add 57 = .ok (.lload 5, 2) := by decide +kernel
theorem dX0_add_59 : decode cX0_add 59 = .ok (.lastore, 1) := by decide +kernel
theorem dX0_add_60 : decode cX0_add 60 = .ok (.aload_n 0, 1) := by decide +kernel
theorem dX0_add_61 : decode cX0_add 61 = .ok (.dup, 1) := by decide +kernel
theorem dX0_add_62 : decode cX0_add 62 = .ok (.getfield 28, 3) := by decide +kernel
theorem dX0_add_65 : decode cX0_add 65 = .ok (.iconst 1, 1) := by decide +kernel
theorem dX0_add_66 : decode cX0_add 66 = .ok (.iadd, 1) := by decide +kernel
theorem dX0_add_67 : decode cX0_add 67 = .ok (.putfield 28, 3) := by decide +kernel
theorem dX0_add_70 : decode cX0_add 70 = .ok (.return_, 1) := by decide +kernel
theorem dX0_dropFirst_0 : decode cX0_dropFirst 0 = .ok (.iload_n 1, 1) := by decide +kernel
theorem dX0_dropFirst_1 : decode cX0_dropFirst 1 = .ok (.istore_n 2, 1) := by decide +kernel
theorem dX0_dropFirst_2 : decode cX0_dropFirst 2 = .ok (.iload_n 2, 1) := by decide +kernel
theorem dX0_dropFirst_3 : decode cX0_dropFirst 3 = .ok (.aload_n 0, 1) := by decide +kernel
theorem dX0_dropFirst_4 : decode cX0_dropFirst 4 = .ok (.getfield 28, 3) := by decide +kernel
theorem dX0_dropFirst_7 : decode cX0_dropFirst 7 = .ok (.if_icmp .ge 18, 3) := by decide +kernel
theorem dX0_dropFirst_10 : decode cX0_dropFirst 10 = .ok (.aload_n 0, 1) := by decide +kernel
theorem dX0_dropFirst_11 : decode cX0_dropFirst 11 = .ok (.iload_n 2, 1) := by decide +kernel
theorem dX0_dropFirst_12 : decode cX0_dropFirst 12 = .ok (.iload_n 1, 1) := by decide +kernel
theorem dX0_dropFirst_13 : decode cX0_dropFirst 13 = .ok (.isub, 1) := by decide +kernel
theorem dX0_dropFirst_14 : decode cX0_dropFirst 14 = .ok (.aload_n 0, 1) := by decide +kernel
theorem dX0_dropFirst_15 : decode cX0_dropFirst 15 = .ok (.iload_n 2, 1) := by decide +kernel
theorem dX0_dropFirst_16 : decode cX0_dropFirst 16 = .ok (.invokevirtual 32, 3) := by decide +kernel
theorem dX0_dropFirst_19 : decode cX0_dropFirst 19 = .ok (.iinc 2 1, 3) := by decide +kernel
theorem dX0_dropFirst_22 : decode cX0_dropFirst 22 = .ok (.goto (-20), 3) := by decide +kernel
theorem dX0_dropFirst_25 : decode cX0_dropFirst 25 = .ok (.aload_n 0, 1) := by decide +kernel
theorem dX0_dropFirst_26 : decode cX0_dropFirst 26 = .ok (.iconst 0, 1) := by decide +kernel
theorem dX0_dropFirst_27 : decode cX0_dropFirst 27 = .ok (.aload_n 0, 1) := by decide +kernel
theorem dX0_dropFirst_28 : decode cX0_dropFirst 28 = .ok (.getfield 28, 3) := by decide +kernel
theorem dX0_dropFirst_31 : decode cX0_dropFirst 31 = .ok (.iload_n 1, 1) := by decide +kernel
theorem dX0_dropFirst_32 : decode cX0_dropFirst 32 = .ok (.isub, 1) := by decide +kernel
theorem dX0_dropFirst_33 : decode cX0_dropFirst 33 = .ok (.invokestatic 40, 3) := by decide +kernel
theorem dX0_dropFirst_36 : decode cX0_dropFirst 36 = .ok (.putfield 28, 3) := by decide +kernel
theorem dX0_dropFirst_39 : decode cX0_dropFirst 39 = .ok (.return_, 1) := by decide +kernel
theorem dX0_dropFrom_0 : decode cX0_dropFrom 0 = .ok (.iconst 0, 1) := by decide +kernel
theorem dX0_dropFrom_1 : decode cX0_dropFrom 1 = .ok (.istore_n 2, 1) := by decide +kernel
theorem dX0_dropFrom_2 : decode cX0_dropFrom 2 = .ok (.iconst 0, 1) := by decide +kernel
theorem dX0_dropFrom_3 : decode cX0_dropFrom 3 = .ok (.istore_n 3, 1) := by decide +kernel
theorem dX0_dropFrom_4 : decode cX0_dropFrom 4 = .ok (.iload_n 3, 1) := by decide +kernel
theorem dX0_dropFrom_5 : decode cX0_dropFrom 5 = .ok (.aload_n 0, 1) := by decide +kernel
theorem dX0_dropFrom_6 : decode cX0_dropFrom 6 = .ok (.getfield 28, 3) := by decide +kernel
theorem dX0_dropFrom_9 : decode cX0_dropFrom 9 = .ok (.if_icmp .ge 29, 3) := by decide +kernel
theorem dX0_dropFrom_12 : decode cX0_dropFrom 12 = .ok (.aload_n 0, 1) := by decide +kernel
theorem dX0_dropFrom_13 : decode cX0_dropFrom 13 = .ok (.getfield 9, 3) := by decide +kernel
theorem dX0_dropFrom_16 : decode cX0_dropFrom 16 = .ok (.iload_n 3, 1) := by decide +kernel
theorem dX0_dropFrom_17 : decode cX0_dropFrom 17 = .ok (.iaload, 1) := by decide +kernel
theorem dX0_dropFrom_18 : decode cX0_dropFrom 18 = .ok (.iload_n 1, 1) := by decide +kernel
theorem dX0_dropFrom_19 : decode cX0_dropFrom 19 = .ok (.if_icmp .eq 13, 3) := by decide +kernel
theorem dX0_dropFrom_22 : decode cX0_dropFrom 22 = .ok (.aload_n 0, 1) := by decide +kernel
theorem dX0_dropFrom_23 : decode cX0_dropFrom 23 = .ok (.iload_n 2, 1) := by decide +kernel
theorem dX0_dropFrom_24 : decode cX0_dropFrom 24 = .ok (.aload_n 0, 1) := by decide +kernel
theorem dX0_dropFrom_25 : decode cX0_dropFrom 25 = .ok (.iload_n 3, 1) := by decide +kernel
theorem dX0_dropFrom_26 : decode cX0_dropFrom 26 = .ok (.invokevirtual 32, 3) := by decide +kernel
theorem dX0_dropFrom_29 : decode cX0_dropFrom 29 = .ok (.iinc 2 1, 3) := by decide +kernel
theorem dX0_dropFrom_32 : decode cX0_dropFrom 32 = .ok (.iinc 3 1, 3) := by decide +kernel
theorem dX0_dropFrom_35 : decode cX0_dropFrom 35 = .ok (.goto (-31), 3) := by decide +kernel
theorem dX0_dropFrom_38 : decode cX0_dropFrom 38 = .ok (.aload_n 0, 1) := by decide +kernel
theorem dX0_dropFrom_39 : decode cX0_dropFrom 39 = .ok (.getfield 28, 3) := by decide +kernel
theorem dX0_dropFrom_42 : decode cX0_dropFrom 42 = .ok (.iload_n 2, 1) := by decide +kernel
theorem dX0_dropFrom_43 : decode cX0_dropFrom 43 = .ok (.isub, 1) := by decide +kernel
theorem dX0_dropFrom_44 : decode cX0_dropFrom 44 = .ok (.istore_n 3, 1) := by decide +kernel
theorem dX0_dropFrom_45 : decode cX0_dropFrom 45 = .ok (.aload_n 0, 1) := by decide +kernel
theorem dX0_dropFrom_46 : decode cX0_dropFrom 46 = .ok (.iload_n 2, 1) := by decide +kernel
theorem dX0_dropFrom_47 : decode cX0_dropFrom 47 = .ok (.putfield 28, 3) := by decide +kernel
theorem dX0_dropFrom_50 : decode cX0_dropFrom 50 = .ok (.iload_n 3, 1) := by decide +kernel
theorem dX0_dropFrom_51 : decode cX0_dropFrom 51 = .ok (.ireturn, 1) := by decide +kernel
theorem dX0_ofLetter_0 : decode cX0_ofLetter 0 = .ok (.iload_n 2, 1) := by decide +kernel
theorem dX0_ofLetter_1 : decode cX0_ofLetter 1 = .ok (.tableswitch 88 0 5 #[39, 46, 53, 60, 67, 77], 39) := by decide +kernel
theorem dX0_ofLetter_40 : decode cX0_ofLetter 40 = .ok (.aload_n 0, 1) := by decide +kernel
theorem dX0_ofLetter_41 : decode cX0_ofLetter 41 = .ok (.getfield 9, 3) := by decide +kernel
theorem dX0_ofLetter_44 : decode cX0_ofLetter 44 = .ok (.iload_n 1, 1) := by decide +kernel
theorem dX0_ofLetter_45 : decode cX0_ofLetter 45 = .ok (.iaload, 1) := by decide +kernel
theorem dX0_ofLetter_46 : decode cX0_ofLetter 46 = .ok (.ireturn, 1) := by decide +kernel
theorem dX0_ofLetter_47 : decode cX0_ofLetter 47 = .ok (.aload_n 0, 1) := by decide +kernel
theorem dX0_ofLetter_48 : decode cX0_ofLetter 48 = .ok (.getfield 15, 3) := by decide +kernel
theorem dX0_ofLetter_51 : decode cX0_ofLetter 51 = .ok (.iload_n 1, 1) := by decide +kernel
theorem dX0_ofLetter_52 : decode cX0_ofLetter 52 = .ok (.iaload, 1) := by decide +kernel
theorem dX0_ofLetter_53 : decode cX0_ofLetter 53 = .ok (.ireturn, 1) := by decide +kernel
theorem dX0_ofLetter_54 : decode cX0_ofLetter 54 = .ok (.aload_n 0, 1) := by decide +kernel
theorem dX0_ofLetter_55 : decode cX0_ofLetter 55 = .ok (.getfield 18, 3) := by decide +kernel
theorem dX0_ofLetter_58 : decode cX0_ofLetter 58 = .ok (.iload_n 1, 1) := by decide +kernel
theorem dX0_ofLetter_59 : decode cX0_ofLetter 59 = .ok (.iaload, 1) := by decide +kernel
theorem dX0_ofLetter_60 : decode cX0_ofLetter 60 = .ok (.ireturn, 1) := by decide +kernel
theorem dX0_ofLetter_61 : decode cX0_ofLetter 61 = .ok (.aload_n 0, 1) := by decide +kernel
theorem dX0_ofLetter_62 : decode cX0_ofLetter 62 = .ok (.getfield 21, 3) := by decide +kernel
theorem dX0_ofLetter_65 : decode cX0_ofLetter 65 = .ok (.iload_n 1, 1) := by decide +kernel
theorem dX0_ofLetter_66 : decode cX0_ofLetter 66 = .ok (.iaload, 1) := by decide +kernel
theorem dX0_ofLetter_67 : decode cX0_ofLetter 67 = .ok (.ireturn, 1) := by decide +kernel
theorem dX0_ofLetter_68 : decode cX0_ofLetter 68 = .ok (.aload_n 0, 1) := by decide +kernel
theorem dX0_ofLetter_69 : decode cX0_ofLetter 69 = .ok (.getfield 24, 3) := by decide +kernel
theorem dX0_ofLetter_72 : decode cX0_ofLetter 72 = .ok (.iload_n 1, 1) := by decide +kernel
theorem dX0_ofLetter_73 : decode cX0_ofLetter 73 = .ok (.laload, 1) := by decide +kernel
theorem dX0_ofLetter_74 : decode cX0_ofLetter 74 = .ok (.invokestatic 46, 3) := by decide +kernel
theorem dX0_ofLetter_77 : decode cX0_ofLetter 77 = .ok (.ireturn, 1) := by decide +kernel
theorem dX0_ofLetter_78 : decode cX0_ofLetter 78 = .ok (.aload_n 0, 1) := by decide +kernel
theorem dX0_ofLetter_79 : decode cX0_ofLetter 79 = .ok (.getfield 24, 3) := by decide +kernel
theorem dX0_ofLetter_82 : decode cX0_ofLetter 82 = .ok (.iload_n 1, 1) := by decide +kernel
theorem dX0_ofLetter_83 : decode cX0_ofLetter 83 = .ok (.laload, 1) := by decide +kernel
theorem dX0_ofLetter_84 : decode cX0_ofLetter 84 = .ok (.iconst 0, 1) := by decide +kernel
theorem dX0_ofLetter_85 : decode cX0_ofLetter 85 = .ok (.invokestatic 52, 3) := by decide +kernel
theorem dX0_ofLetter_88 : decode cX0_ofLetter 88 = .ok (.ireturn, 1) := by decide +kernel
theorem dX0_ofLetter_89 : decode cX0_ofLetter 89 = .ok (.aload_n 0, 1) := by decide +kernel
theorem dX0_ofLetter_90 : decode cX0_ofLetter 90 = .ok (.getfield 24, 3) := by decide +kernel
theorem dX0_ofLetter_93 : decode cX0_ofLetter 93 = .ok (.iload_n 1, 1) := by decide +kernel
theorem dX0_ofLetter_94 : decode cX0_ofLetter 94 = .ok (.laload, 1) := by decide +kernel
theorem dX0_ofLetter_95 : decode cX0_ofLetter 95 = .ok (.invokestatic 58, 3) := by decide +kernel
theorem dX0_ofLetter_98 : decode cX0_ofLetter 98 = .ok (.ireturn, 1) := by decide +kernel
theorem dX0_busiest_0 : decode cX0_busiest 0 = .ok (.bipush (-9), 2) := by decide +kernel
theorem dX0_busiest_2 : decode cX0_busiest 2 = .ok (.istore_n 1, 1) := by decide +kernel
theorem dX0_busiest_3 : decode cX0_busiest 3 = .ok (.iconst 0, 1) := by decide +kernel
theorem dX0_busiest_4 : decode cX0_busiest 4 = .ok (.istore_n 2, 1) := by decide +kernel
theorem dX0_busiest_5 : decode cX0_busiest 5 = .ok (.iconst 0, 1) := by decide +kernel
theorem dX0_busiest_6 : decode cX0_busiest 6 = .ok (.istore_n 3, 1) := by decide +kernel
theorem dX0_busiest_7 : decode cX0_busiest 7 = .ok (.iload_n 3, 1) := by decide +kernel
theorem dX0_busiest_8 : decode cX0_busiest 8 = .ok (.bipush 6, 2) := by decide +kernel
theorem dX0_busiest_10 : decode cX0_busiest 10 = .ok (.if_icmp .ge 27, 3) := by decide +kernel
theorem dX0_busiest_13 : decode cX0_busiest 13 = .ok (.aload_n 0, 1) := by decide +kernel
theorem dX0_busiest_14 : decode cX0_busiest 14 = .ok (.iload_n 3, 1) := by decide +kernel
theorem dX0_busiest_15 : decode cX0_busiest 15 = .ok (.invokevirtual 61, 3) := by decide +kernel
theorem dX0_busiest_18 : decode cX0_busiest 18 = .ok (.istore 4, 2) := by decide +kernel
theorem dX0_busiest_20 : decode cX0_busiest 20 = .ok (.iload 4, 2) := by decide +kernel
theorem dX0_busiest_22 : decode cX0_busiest 22 = .ok (.iload_n 2, 1) := by decide +kernel
theorem dX0_busiest_23 : decode cX0_busiest 23 = .ok (.if_icmp .le 8, 3) := by decide +kernel
theorem dX0_busiest_26 : decode cX0_busiest 26 = .ok (.iload 4, 2) := by decide +kernel
theorem dX0_busiest_28 : decode cX0_busiest 28 = .ok (.istore_n 2, 1) := by decide +kernel
theorem dX0_busiest_29 : decode cX0_busiest 29 = .ok (.iload_n 3, 1) := by decide +kernel
theorem dX0_busiest_30 : decode cX0_busiest 30 = .ok (.istore_n 1, 1) := by decide +kernel
theorem dX0_busiest_31 : decode cX0_busiest 31 = .ok (.iinc 3 1, 3) := by decide +kernel
theorem dX0_busiest_34 : decode cX0_busiest 34 = .ok (.goto (-27), 3) := by decide +kernel
theorem dX0_busiest_37 : decode cX0_busiest 37 = .ok (.iload_n 1, 1) := by decide +kernel
theorem dX0_busiest_38 : decode cX0_busiest 38 = .ok (.ireturn, 1) := by decide +kernel
theorem dX0_lettersFrom_0 : decode cX0_lettersFrom 0 = .ok (.iconst 0, 1) := by decide +kernel
theorem dX0_lettersFrom_1 : decode cX0_lettersFrom 1 = .ok (.istore_n 2, 1) := by decide +kernel
theorem dX0_lettersFrom_2 : decode cX0_lettersFrom 2 = .ok (.iconst 0, 1) := by decide +kernel
theorem dX0_lettersFrom_3 : decode cX0_lettersFrom 3 = .ok (.istore_n 3, 1) := by decide +kernel
theorem dX0_lettersFrom_4 : decode cX0_lettersFrom 4 = .ok (.iload_n 3, 1) := by decide +kernel
theorem dX0_lettersFrom_5 : decode cX0_lettersFrom 5 = .ok (.aload_n 0, 1) := by decide +kernel
theorem dX0_lettersFrom_6 : decode cX0_lettersFrom 6 = .ok (.getfield 28, 3) := by decide +kernel
theorem dX0_lettersFrom_9 : decode cX0_lettersFrom 9 = .ok (.if_icmp .ge 22, 3) := by decide +kernel
theorem dX0_lettersFrom_12 : decode cX0_lettersFrom 12 = .ok (.aload_n 0, 1) := by decide +kernel
theorem dX0_lettersFrom_13 : decode cX0_lettersFrom 13 = .ok (.getfield 9, 3) := by decide +kernel
theorem dX0_lettersFrom_16 : decode cX0_lettersFrom 16 = .ok (.iload_n 3, 1) := by decide +kernel
theorem dX0_lettersFrom_17 : decode cX0_lettersFrom 17 = .ok (.iaload, 1) := by decide +kernel
theorem dX0_lettersFrom_18 : decode cX0_lettersFrom 18 = .ok (.iload_n 1, 1) := by decide +kernel
theorem dX0_lettersFrom_19 : decode cX0_lettersFrom 19 = .ok (.if_icmp .ne 6, 3) := by decide +kernel
theorem dX0_lettersFrom_22 : decode cX0_lettersFrom 22 = .ok (.iinc 2 1, 3) := by decide +kernel
theorem dX0_lettersFrom_25 : decode cX0_lettersFrom 25 = .ok (.iinc 3 1, 3) := by decide +kernel
theorem dX0_lettersFrom_28 : decode cX0_lettersFrom 28 = .ok (.goto (-24), 3) := by decide +kernel
theorem dX0_lettersFrom_31 : decode cX0_lettersFrom 31 = .ok (.iload_n 2, 1) := by decide +kernel
theorem dX0_lettersFrom_32 : decode cX0_lettersFrom 32 = .ok (.ireturn, 1) := by decide +kernel
theorem dX1_init_0 : decode cX1_init 0 = .ok (.aload_n 0, 1) := by decide +kernel
theorem dX1_init_1 : decode cX1_init 1 = .ok (.invokespecial 3, 3) := by decide +kernel
theorem dX1_init_4 : decode cX1_init 4 = .ok (.aload_n 0, 1) := by decide +kernel
theorem dX1_init_5 : decode cX1_init 5 = .ok (.new 9, 3) := by decide +kernel
theorem dX1_init_8 : decode cX1_init 8 = .ok (.dup, 1) := by decide +kernel
theorem dX1_init_9 : decode cX1_init 9 = .ok (.invokespecial 11, 3) := by decide +kernel
theorem dX1_init_12 : decode cX1_init 12 = .ok (.putfield 12, 3) := by decide +kernel
theorem dX1_init_15 : decode cX1_init 15 = .ok (.aload_n 0, 1) := by decide +kernel
theorem dX1_init_16 : decode cX1_init 16 = .ok (.iconst 4, 1) := by decide +kernel
theorem dX1_init_17 : decode cX1_init 17 = .ok (.newarray .int, 2) := by decide +kernel
theorem dX1_init_19 : decode cX1_init 19 = .ok (.putfield 18, 3) := by decide +kernel
theorem dX1_init_22 : decode cX1_init 22 = .ok (.aload_n 0, 1) := by decide +kernel
theorem dX1_init_23 : decode cX1_init 23 = .ok (.iconst 4, 1) := by decide +kernel
theorem dX1_init_24 : decode cX1_init 24 = .ok (.newarray .int, 2) := by decide +kernel
theorem dX1_init_26 : decode cX1_init 26 = .ok (.putfield 22, 3) := by decide +kernel
theorem dX1_init_29 : decode cX1_init 29 = .ok (.aload_n 0, 1) := by decide +kernel
theorem dX1_init_30 : decode cX1_init 30 = .ok (.aload_n 1, 1) := by decide +kernel
theorem dX1_init_31 : decode cX1_init 31 = .ok (.putfield 25, 3) := by decide +kernel
theorem dX1_init_34 : decode cX1_init 34 = .ok (.return_, 1) := by decide +kernel
theorem dX1_asItIs_0 : decode cX1_asItIs 0 = .ok (.aload_n 0, 1) := by decide +kernel
theorem dX1_asItIs_1 : decode cX1_asItIs 1 = .ok (.getfield 12, 3) := by decide +kernel
theorem dX1_asItIs_4 : decode cX1_asItIs 4 = .ok (.aload_n 0, 1) := by decide +kernel
theorem dX1_asItIs_5 : decode cX1_asItIs 5 = .ok (.getfield 25, 3) := by decide +kernel
theorem dX1_asItIs_8 : decode cX1_asItIs 8 = .ok (.invokevirtual 28, 3) := by decide +kernel
theorem dX1_asItIs_11 : decode cX1_asItIs 11 = .ok (.aload_n 0, 1) := by decide +kernel
theorem dX1_asItIs_12 : decode cX1_asItIs 12 = .ok (.getfield 12, 3) := by decide +kernel
theorem dX1_asItIs_15 : decode cX1_asItIs 15 = .ok (.areturn, 1) := by decide +kernel
theorem dX1_asLeft_0 : decode cX1_asLeft 0 = .ok (.aload_n 0, 1) := by decide +kernel
theorem dX1_asLeft_1 : decode cX1_asLeft 1 = .ok (.getfield 12, 3) := by decide +kernel
theorem dX1_asLeft_4 : decode cX1_asLeft 4 = .ok (.areturn, 1) := by decide +kernel
theorem dX1_daysOn_0 : decode cX1_daysOn 0 = .ok (.aload_n 0, 1) := by decide +kernel
theorem dX1_daysOn_1 : decode cX1_daysOn 1 = .ok (.invokevirtual 32, 3) := by decide +kernel
theorem dX1_daysOn_4 : decode cX1_daysOn 4 = .ok (.pop, 1) := by decide +kernel
theorem dX1_daysOn_5 : decode cX1_daysOn 5 = .ok (.aload_n 0, 1) := by decide +kernel
theorem dX1_daysOn_6 : decode cX1_daysOn 6 = .ok (.getfield 12, 3) := by decide +kernel
theorem dX1_daysOn_9 : decode cX1_daysOn 9 = .ok (.iload_n 1, 1) := by decide +kernel
theorem dX1_daysOn_10 : decode cX1_daysOn 10 = .ok (.invokevirtual 36, 3) := by decide +kernel
theorem dX1_daysOn_13 : decode cX1_daysOn 13 = .ok (.aload_n 0, 1) := by decide +kernel
theorem dX1_daysOn_14 : decode cX1_daysOn 14 = .ok (.getfield 12, 3) := by decide +kernel
theorem dX1_daysOn_17 : decode cX1_daysOn 17 = .ok (.areturn, 1) := by decide +kernel
theorem dX1_nextToLearn_0 : decode cX1_nextToLearn 0 = .ok (.aload_n 0, 1) := by decide +kernel
theorem dX1_nextToLearn_1 : decode cX1_nextToLearn 1 = .ok (.invokevirtual 32, 3) := by decide +kernel
theorem dX1_nextToLearn_4 : decode cX1_nextToLearn 4 = .ok (.pop, 1) := by decide +kernel
theorem dX1_nextToLearn_5 : decode cX1_nextToLearn 5 = .ok (.iconst 0, 1) := by decide +kernel
theorem dX1_nextToLearn_6 : decode cX1_nextToLearn 6 = .ok (.istore_n 2, 1) := by decide +kernel
theorem dX1_nextToLearn_7 : decode cX1_nextToLearn 7 = .ok (.iload_n 2, 1) := by decide +kernel
theorem dX1_nextToLearn_8 : decode cX1_nextToLearn 8 = .ok (.bipush 60, 2) := by decide +kernel
theorem dX1_nextToLearn_10 : decode cX1_nextToLearn 10 = .ok (.if_icmp .ge 62, 3) := by decide +kernel
theorem dX1_nextToLearn_13 : decode cX1_nextToLearn 13 = .ok (.aload_n 0, 1) := by decide +kernel
theorem dX1_nextToLearn_14 : decode cX1_nextToLearn 14 = .ok (.getfield 12, 3) := by decide +kernel
theorem dX1_nextToLearn_17 : decode cX1_nextToLearn 17 = .ok (.iconst 1, 1) := by decide +kernel
theorem dX1_nextToLearn_18 : decode cX1_nextToLearn 18 = .ok (.invokevirtual 36, 3) := by decide +kernel
theorem dX1_nextToLearn_21 : decode cX1_nextToLearn 21 = .ok (.iconst 0, 1) := by decide +kernel
theorem dX1_nextToLearn_22 : decode cX1_nextToLearn 22 = .ok (.istore_n 3, 1) := by decide +kernel
theorem dX1_nextToLearn_23 : decode cX1_nextToLearn 23 = .ok (.iload_n 3, 1) := by decide +kernel
theorem dX1_nextToLearn_24 : decode cX1_nextToLearn 24 = .ok (.aload_n 0, 1) := by decide +kernel
theorem dX1_nextToLearn_25 : decode cX1_nextToLearn 25 = .ok (.getfield 25, 3) := by decide +kernel
theorem dX1_nextToLearn_28 : decode cX1_nextToLearn 28 = .ok (.getfield 40, 3) := by decide +kernel
theorem dX1_nextToLearn_31 : decode cX1_nextToLearn 31 = .ok (.if_icmp .ge 35, 3) := by decide +kernel
theorem dX1_nextToLearn_34 : decode cX1_nextToLearn 34 = .ok (.aload_n 0, 1) := by decide +kernel
theorem dX1_nextToLearn_35 : decode cX1_nextToLearn 35 = .ok (.getfield 12, 3) := by decide +kernel
theorem dX1_nextToLearn_38 : decode cX1_nextToLearn 38 = .ok (.iload_n 3, 1) := by decide +kernel
theorem dX1_nextToLearn_39 : decode cX1_nextToLearn 39 = .ok (.iload_n 1, 1) := by decide +kernel
theorem dX1_nextToLearn_40 : decode cX1_nextToLearn 40 = .ok (.invokevirtual 44, 3) := by decide +kernel
theorem dX1_nextToLearn_43 : decode cX1_nextToLearn 43 = .ok (.ifCond .eq 17, 3) := by decide +kernel
theorem dX1_nextToLearn_46 : decode cX1_nextToLearn 46 = .ok (.aload_n 0, 1) := by decide +kernel
theorem dX1_nextToLearn_47 : decode cX1_nextToLearn 47 = .ok (.getfield 25, 3) := by decide +kernel
theorem dX1_nextToLearn_50 : decode cX1_nextToLearn 50 = .ok (.iload_n 3, 1) := by decide +kernel
theorem dX1_nextToLearn_51 : decode cX1_nextToLearn 51 = .ok (.iload_n 1, 1) := by decide +kernel
theorem dX1_nextToLearn_52 : decode cX1_nextToLearn 52 = .ok (.invokevirtual 44, 3) := by decide +kernel
theorem dX1_nextToLearn_55 : decode cX1_nextToLearn 55 = .ok (.ifCond .ne 5, 3) := by decide +kernel
theorem dX1_nextToLearn_58 : decode cX1_nextToLearn 58 = .ok (.iload_n 3, 1) := by decide +kernel
theorem dX1_nextToLearn_59 : decode cX1_nextToLearn 59 = .ok (.ireturn, 1) := by decide +kernel
theorem dX1_nextToLearn_60 : decode cX1_nextToLearn 60 = .ok (.iinc 3 1, 3) := by decide +kernel
theorem dX1_nextToLearn_63 : decode cX1_nextToLearn 63 = .ok (.goto (-40), 3) := by decide +kernel
theorem dX1_nextToLearn_66 : decode cX1_nextToLearn 66 = .ok (.iinc 2 1, 3) := by decide +kernel
theorem dX1_nextToLearn_69 : decode cX1_nextToLearn 69 = .ok (.goto (-62), 3) := by decide +kernel
theorem dX1_nextToLearn_72 : decode cX1_nextToLearn 72 = .ok (.bipush (-9), 2) := by decide +kernel
theorem dX1_nextToLearn_74 : decode cX1_nextToLearn 74 = .ok (.ireturn, 1) := by decide +kernel
theorem dX1_secretToLetHer_0 : decode cX1_secretToLetHer 0 = .ok (.bipush (-9), 2) := by decide +kernel
theorem dX1_secretToLetHer_2 : decode cX1_secretToLetHer 2 = .ok (.istore 4, 2) := by decide +kernel
theorem dX1_secretToLetHer_4 : decode cX1_secretToLetHer 4 = .ok (.aload_n 0, 1) := by decide +kernel
theorem dX1_secretToLetHer_5 : decode cX1_secretToLetHer 5 = .ok (.iload_n 2, 1) := by decide +kernel
theorem dX1_secretToLetHer_6 : decode cX1_secretToLetHer 6 = .ok (.invokevirtual 48, 3) := by decide +kernel
theorem dX1_secretToLetHer_9 : decode cX1_secretToLetHer 9 = .ok (.iload_n 1, 1) := by decide +kernel
theorem dX1_secretToLetHer_10 : decode cX1_secretToLetHer 10 = .ok (.invokevirtual 52, 3) := by decide +kernel
theorem dX1_secretToLetHer_13 : decode cX1_secretToLetHer 13 = .ok (.invokestatic 56, 3) := by decide +kernel
theorem dX1_secretToLetHer_16 : decode cX1_secretToLetHer 16 = .ok (.istore 5, 2) := by decide +kernel
theorem dX1_secretToLetHer_18 : decode cX1_secretToLetHer 18 = .ok (.iconst 0, 1) := by decide +kernel
theorem dX1_secretToLetHer_19 : decode cX1_secretToLetHer 19 = .ok (.istore 6, 2) := by decide +kernel
theorem dX1_secretToLetHer_21 : decode cX1_secretToLetHer 21 = .ok (.iload 6, 2) := by decide +kernel
theorem dX1_secretToLetHer_23 : decode cX1_secretToLetHer 23 = .ok (.bipush 40, 2) := by decide +kernel
theorem dX1_secretToLetHer_25 : decode cX1_secretToLetHer 25 = .ok (.if_icmp .ge 51, 3) := by decide +kernel
theorem dX1_secretToLetHer_28 : decode cX1_secretToLetHer 28 = .ok (.aload_n 0, 1) := by decide +kernel
theorem dX1_secretToLetHer_29 : decode cX1_secretToLetHer 29 = .ok (.getfield 25, 3) := by decide +kernel
theorem dX1_secretToLetHer_32 : decode cX1_secretToLetHer 32 = .ok (.iconst (-1), 1) := by decide +kernel
theorem dX1_secretToLetHer_33 : decode cX1_secretToLetHer 33 = .ok (.iload 6, 2) := by decide +kernel
theorem dX1_secretToLetHer_35 : decode cX1_secretToLetHer 35 = .ok (.invokevirtual 44, 3) := by decide +kernel
theorem dX1_secretToLetHer_38 : decode cX1_secretToLetHer 38 = .ok (.ifCond .eq 7, 3) := by decide +kernel
theorem dX1_secretToLetHer_41 : decode cX1_secretToLetHer 41 = .ok (.iconst 0, 1) := by decide +kernel
theorem dX1_secretToLetHer_42 : decode cX1_secretToLetHer 42 = .ok (.goto 11, 3) := by decide +kernel
theorem dX1_secretToLetHer_45 : decode cX1_secretToLetHer 45 = .ok (.aload_n 0, 1) := by decide +kernel
theorem dX1_secretToLetHer_46 : decode cX1_secretToLetHer 46 = .ok (.iload_n 1, 1) := by decide +kernel
theorem dX1_secretToLetHer_47 : decode cX1_secretToLetHer 47 = .ok (.iload 6, 2) := by decide +kernel
theorem dX1_secretToLetHer_49 : decode cX1_secretToLetHer 49 = .ok (.iload_n 2, 1) := by decide +kernel
theorem dX1_secretToLetHer_50 : decode cX1_secretToLetHer 50 = .ok (.invokevirtual 62, 3) := by decide +kernel
theorem dX1_secretToLetHer_53 : decode cX1_secretToLetHer 53 = .ok (.istore 7, 2) := by decide +kernel
theorem dX1_secretToLetHer_55 : decode cX1_secretToLetHer 55 = .ok (.iload 7, 2) := by decide +kernel
theorem dX1_secretToLetHer_57 : decode cX1_secretToLetHer 57 = .ok (.iload 5, 2) := by decide +kernel
theorem dX1_secretToLetHer_59 : decode cX1_secretToLetHer 59 = .ok (.if_icmp .le 11, 3) := by decide +kernel
theorem dX1_secretToLetHer_62 : decode cX1_secretToLetHer 62 = .ok (.iload 7, 2) := by decide +kernel
theorem dX1_secretToLetHer_64 : decode cX1_secretToLetHer 64 = .ok (.istore 5, 2) := by decide +kernel
theorem dX1_secretToLetHer_66 : decode cX1_secretToLetHer 66 = .ok (.iload 6, 2) := by decide +kernel
theorem dX1_secretToLetHer_68 : decode cX1_secretToLetHer 68 = .ok (.istore 4, 2) := by decide +kernel
theorem dX1_secretToLetHer_70 : decode cX1_secretToLetHer 70 = .ok (.iinc 6 1, 3) := by decide +kernel
theorem dX1_secretToLetHer_73 : decode cX1_secretToLetHer 73 = .ok (.goto (-52), 3) := by decide +kernel
theorem dX1_secretToLetHer_76 : decode cX1_secretToLetHer 76 = .ok (.iload_n 3, 1) := by decide +kernel
theorem dX1_secretToLetHer_77 : decode cX1_secretToLetHer 77 = .ok (.ifCond .eq 10, 3) := by decide +kernel
theorem dX1_secretToLetHer_80 : decode cX1_secretToLetHer 80 = .ok (.iload 4, 2) := by decide +kernel
theorem dX1_secretToLetHer_82 : decode cX1_secretToLetHer 82 = .ok (.bipush (-9), 2) := by decide +kernel
theorem dX1_secretToLetHer_84 : decode cX1_secretToLetHer 84 = .ok (.if_icmp .ne 8, 3) := by decide +kernel
theorem dX1_secretToLetHer_87 : decode cX1_secretToLetHer 87 = .ok (.iload 4, 2) := by decide +kernel
theorem dX1_secretToLetHer_89 : decode cX1_secretToLetHer 89 = .ok (.goto 5, 3) := by decide +kernel
theorem dX1_secretToLetHer_92 : decode cX1_secretToLetHer 92 = .ok (.iload 5, 2) := by decide +kernel
theorem dX1_secretToLetHer_94 : decode cX1_secretToLetHer 94 = .ok (.ireturn, 1) := by decide +kernel
theorem dX1_knownIfSheKnew_0 : decode cX1_knownIfSheKnew 0 = .ok (.aload_n 0, 1) := by decide +kernel
theorem dX1_knownIfSheKnew_1 : decode cX1_knownIfSheKnew 1 = .ok (.invokevirtual 32, 3) := by decide +kernel
theorem dX1_knownIfSheKnew_4 : decode cX1_knownIfSheKnew 4 = .ok (.pop, 1) := by decide +kernel
theorem dX1_knownIfSheKnew_5 : decode cX1_knownIfSheKnew 5 = .ok (.aload_n 0, 1) := by decide +kernel
theorem dX1_knownIfSheKnew_6 : decode cX1_knownIfSheKnew 6 = .ok (.getfield 12, 3) := by decide +kernel
theorem dX1_knownIfSheKnew_9 : decode cX1_knownIfSheKnew 9 = .ok (.iconst (-1), 1) := by decide +kernel
theorem dX1_knownIfSheKnew_10 : decode cX1_knownIfSheKnew 10 = .ok (.iload_n 2, 1) := by decide +kernel
theorem dX1_knownIfSheKnew_11 : decode cX1_knownIfSheKnew 11 = .ok (.invokestatic 66, 3) := by decide +kernel
theorem dX1_knownIfSheKnew_14 : decode cX1_knownIfSheKnew 14 = .ok (.invokevirtual 71, 3) := by decide +kernel
theorem dX1_knownIfSheKnew_17 : decode cX1_knownIfSheKnew 17 = .ok (.aload_n 0, 1) := by decide +kernel
theorem dX1_knownIfSheKnew_18 : decode cX1_knownIfSheKnew 18 = .ok (.getfield 12, 3) := by decide +kernel
theorem dX1_knownIfSheKnew_21 : decode cX1_knownIfSheKnew 21 = .ok (.iload_n 3, 1) := by decide +kernel
theorem dX1_knownIfSheKnew_22 : decode cX1_knownIfSheKnew 22 = .ok (.invokevirtual 36, 3) := by decide +kernel
theorem dX1_knownIfSheKnew_25 : decode cX1_knownIfSheKnew 25 = .ok (.aload_n 0, 1) := by decide +kernel
theorem dX1_knownIfSheKnew_26 : decode cX1_knownIfSheKnew 26 = .ok (.getfield 12, 3) := by decide +kernel
theorem dX1_knownIfSheKnew_29 : decode cX1_knownIfSheKnew 29 = .ok (.iload_n 1, 1) := by decide +kernel
theorem dX1_knownIfSheKnew_30 : decode cX1_knownIfSheKnew 30 = .ok (.invokevirtual 52, 3) := by decide +kernel
theorem dX1_knownIfSheKnew_33 : decode cX1_knownIfSheKnew 33 = .ok (.invokestatic 56, 3) := by decide +kernel
theorem dX1_knownIfSheKnew_36 : decode cX1_knownIfSheKnew 36 = .ok (.ireturn, 1) := by decide +kernel
theorem dX1_rubberThatDoes_0 : decode cX1_rubberThatDoes 0 = .ok (.iconst 0, 1) := by decide +kernel
theorem dX1_rubberThatDoes_1 : decode cX1_rubberThatDoes 1 = .ok (.istore 4, 2) := by decide +kernel
theorem dX1_rubberThatDoes_3 : decode cX1_rubberThatDoes 3 = .ok (.iload 4, 2) := by decide +kernel
theorem dX1_rubberThatDoes_5 : decode cX1_rubberThatDoes 5 = .ok (.bipush 18, 2) := by decide +kernel
theorem dX1_rubberThatDoes_7 : decode cX1_rubberThatDoes 7 = .ok (.if_icmp .gt 46, 3) := by decide +kernel
theorem dX1_rubberThatDoes_10 : decode cX1_rubberThatDoes 10 = .ok (.aload_n 0, 1) := by decide +kernel
theorem dX1_rubberThatDoes_11 : decode cX1_rubberThatDoes 11 = .ok (.invokevirtual 32, 3) := by decide +kernel
theorem dX1_rubberThatDoes_14 : decode cX1_rubberThatDoes 14 = .ok (.pop, 1) := by decide +kernel
theorem dX1_rubberThatDoes_15 : decode cX1_rubberThatDoes 15 = .ok (.aload_n 0, 1) := by decide +kernel
theorem dX1_rubberThatDoes_16 : decode cX1_rubberThatDoes 16 = .ok (.getfield 12, 3) := by decide +kernel
theorem dX1_rubberThatDoes_19 : decode cX1_rubberThatDoes 19 = .ok (.iload 4, 2) := by decide +kernel
theorem dX1_rubberThatDoes_21 : decode cX1_rubberThatDoes 21 = .ok (.putfield 75, 3) := by decide +kernel
theorem dX1_rubberThatDoes_24 : decode cX1_rubberThatDoes 24 = .ok (.aload_n 0, 1) := by decide +kernel
theorem dX1_rubberThatDoes_25 : decode cX1_rubberThatDoes 25 = .ok (.getfield 12, 3) := by decide +kernel
theorem dX1_rubberThatDoes_28 : decode cX1_rubberThatDoes 28 = .ok (.iload_n 3, 1) := by decide +kernel
theorem dX1_rubberThatDoes_29 : decode cX1_rubberThatDoes 29 = .ok (.invokevirtual 36, 3) := by decide +kernel
theorem dX1_rubberThatDoes_32 : decode cX1_rubberThatDoes 32 = .ok (.aload_n 0, 1) := by decide +kernel
theorem dX1_rubberThatDoes_33 : decode cX1_rubberThatDoes 33 = .ok (.getfield 12, 3) := by decide +kernel
theorem dX1_rubberThatDoes_36 : decode cX1_rubberThatDoes 36 = .ok (.iload_n 1, 1) := by decide +kernel
theorem dX1_rubberThatDoes_37 : decode cX1_rubberThatDoes 37 = .ok (.iload_n 2, 1) := by decide +kernel
theorem dX1_rubberThatDoes_38 : decode cX1_rubberThatDoes 38 = .ok (.invokevirtual 44, 3) := by decide +kernel
theorem dX1_rubberThatDoes_41 : decode cX1_rubberThatDoes 41 = .ok (.ifCond .ne 6, 3) := by decide +kernel
theorem dX1_rubberThatDoes_44 : decode cX1_rubberThatDoes 44 = .ok (.iload 4, 2) := by decide +kernel
theorem dX1_rubberThatDoes_46 : decode cX1_rubberThatDoes 46 = .ok (.ireturn, 1) := by decide +kernel
theorem dX1_rubberThatDoes_47 : decode cX1_rubberThatDoes 47 = .ok (.iinc 4 1, 3) := by decide +kernel
theorem dX1_rubberThatDoes_50 : decode cX1_rubberThatDoes 50 = .ok (.goto (-47), 3) := by decide +kernel
theorem dX1_rubberThatDoes_53 : decode cX1_rubberThatDoes 53 = .ok (.bipush (-9), 2) := by decide +kernel
theorem dX1_rubberThatDoes_55 : decode cX1_rubberThatDoes 55 = .ok (.ireturn, 1) := by decide +kernel
theorem dX1_fewestInInk_0 : decode cX1_fewestInInk 0 = .ok (.iconst 0, 1) := by decide +kernel
theorem dX1_fewestInInk_1 : decode cX1_fewestInInk 1 = .ok (.istore_n 3, 1) := by decide +kernel
theorem dX1_fewestInInk_2 : decode cX1_fewestInInk 2 = .ok (.iload_n 3, 1) := by decide +kernel
theorem dX1_fewestInInk_3 : decode cX1_fewestInInk 3 = .ok (.aload_n 0, 1) := by decide +kernel
theorem dX1_fewestInInk_4 : decode cX1_fewestInInk 4 = .ok (.getfield 25, 3) := by decide +kernel
theorem dX1_fewestInInk_7 : decode cX1_fewestInInk 7 = .ok (.getfield 40, 3) := by decide +kernel
theorem dX1_fewestInInk_10 : decode cX1_fewestInInk 10 = .ok (.if_icmp .gt 66, 3) := by decide +kernel
theorem dX1_fewestInInk_13 : decode cX1_fewestInInk 13 = .ok (.iconst 0, 1) := by decide +kernel
theorem dX1_fewestInInk_14 : decode cX1_fewestInInk 14 = .ok (.istore 4, 2) := by decide +kernel
theorem dX1_fewestInInk_16 : decode cX1_fewestInInk 16 = .ok (.iload 4, 2) := by decide +kernel
theorem dX1_fewestInInk_18 : decode cX1_fewestInInk 18 = .ok (.iconst 1, 1) := by decide +kernel
theorem dX1_fewestInInk_19 : decode cX1_fewestInInk 19 = .ok (.aload_n 0, 1) := by decide +kernel
theorem dX1_fewestInInk_20 : decode cX1_fewestInInk 20 = .ok (.getfield 25, 3) := by decide +kernel
theorem dX1_fewestInInk_23 : decode cX1_fewestInInk 23 = .ok (.getfield 40, 3) := by decide +kernel
theorem dX1_fewestInInk_26 : decode cX1_fewestInInk 26 = .ok (.ishl, 1) := by decide +kernel
theorem dX1_fewestInInk_27 : decode cX1_fewestInInk 27 = .ok (.if_icmp .ge 43, 3) := by decide +kernel
theorem dX1_fewestInInk_30 : decode cX1_fewestInInk 30 = .ok (.iload 4, 2) := by decide +kernel
theorem dX1_fewestInInk_32 : decode cX1_fewestInInk 32 = .ok (.invokestatic 78, 3) := by decide +kernel
theorem dX1_fewestInInk_35 : decode cX1_fewestInInk 35 = .ok (.iload_n 3, 1) := by decide +kernel
theorem dX1_fewestInInk_36 : decode cX1_fewestInInk 36 = .ok (.if_icmp .eq 6, 3) := by decide +kernel
theorem dX1_fewestInInk_39 : decode cX1_fewestInInk 39 = .ok (.goto 25, 3) := by decide +kernel
theorem dX1_fewestInInk_42 : decode cX1_fewestInInk 42 = .ok (.aload_n 0, 1) := by decide +kernel
theorem dX1_fewestInInk_43 : decode cX1_fewestInInk 43 = .ok (.iload 4, 2) := by decide +kernel
theorem dX1_fewestInInk_45 : decode cX1_fewestInInk 45 = .ok (.iload_n 2, 1) := by decide +kernel
theorem dX1_fewestInInk_46 : decode cX1_fewestInInk 46 = .ok (.invokevirtual 83, 3) := by decide +kernel
theorem dX1_fewestInInk_49 : decode cX1_fewestInInk 49 = .ok (.aload_n 0, 1) := by decide +kernel
theorem dX1_fewestInInk_50 : decode cX1_fewestInInk 50 = .ok (.getfield 12, 3) := by decide +kernel
theorem dX1_fewestInInk_53 : decode cX1_fewestInInk 53 = .ok (.iconst (-1), 1) := by decide +kernel
theorem dX1_fewestInInk_54 : decode cX1_fewestInInk 54 = .ok (.iload_n 1, 1) := by decide +kernel
theorem dX1_fewestInInk_55 : decode cX1_fewestInInk 55 = .ok (.invokevirtual 44, 3) := by decide +kernel
theorem dX1_fewestInInk_58 : decode cX1_fewestInInk 58 = .ok (.ifCond .ne 6, 3) := by decide +kernel
theorem dX1_fewestInInk_61 : decode cX1_fewestInInk 61 = .ok (.iload 4, 2) := by decide +kernel
theorem dX1_fewestInInk_63 : decode cX1_fewestInInk 63 = .ok (.ireturn, 1) := by decide +kernel
theorem dX1_fewestInInk_64 : decode cX1_fewestInInk 64 = .ok (.iinc 4 1, 3) := by decide +kernel
theorem dX1_fewestInInk_67 : decode cX1_fewestInInk 67 = .ok (.goto (-51), 3) := by decide +kernel
theorem dX1_fewestInInk_70 : decode cX1_fewestInInk 70 = .ok (.iinc 3 1, 3) := by decide +kernel
theorem dX1_fewestInInk_73 : decode cX1_fewestInInk 73 = .ok (.goto (-71), 3) := by decide +kernel
theorem dX1_fewestInInk_76 : decode cX1_fewestInInk 76 = .ok (.bipush (-9), 2) := by decide +kernel
theorem dX1_fewestInInk_78 : decode cX1_fewestInInk 78 = .ok (.ireturn, 1) := by decide +kernel
theorem dX1_passInInk_0 : decode cX1_passInInk 0 = .ok (.aload_n 0, 1) := by decide +kernel
theorem dX1_passInInk_1 : decode cX1_passInInk 1 = .ok (.invokevirtual 32, 3) := by decide +kernel
theorem dX1_passInInk_4 : decode cX1_passInInk 4 = .ok (.pop, 1) := by decide +kernel
theorem dX1_passInInk_5 : decode cX1_passInInk 5 = .ok (.aload_n 0, 1) := by decide +kernel
theorem dX1_passInInk_6 : decode cX1_passInInk 6 = .ok (.getfield 12, 3) := by decide +kernel
theorem dX1_passInInk_9 : decode cX1_passInInk 9 = .ok (.iload_n 1, 1) := by decide +kernel
theorem dX1_passInInk_10 : decode cX1_passInInk 10 = .ok (.putfield 87, 3) := by decide +kernel
theorem dX1_passInInk_13 : decode cX1_passInInk 13 = .ok (.aload_n 0, 1) := by decide +kernel
theorem dX1_passInInk_14 : decode cX1_passInInk 14 = .ok (.getfield 12, 3) := by decide +kernel
theorem dX1_passInInk_17 : decode cX1_passInInk 17 = .ok (.iload_n 2, 1) := by decide +kernel
theorem dX1_passInInk_18 : decode cX1_passInInk 18 = .ok (.invokevirtual 36, 3) := by decide +kernel
theorem dX1_passInInk_21 : decode cX1_passInInk 21 = .ok (.return_, 1) := by decide +kernel
theorem dX1_bestFriend_0 : decode cX1_bestFriend 0 = .ok (.bipush (-9), 2) := by decide +kernel
theorem dX1_bestFriend_2 : decode cX1_bestFriend 2 = .ok (.istore 5, 2) := by decide +kernel
theorem dX1_bestFriend_4 : decode cX1_bestFriend 4 = .ok (.bipush 61, 2) := by decide +kernel
theorem dX1_bestFriend_6 : decode cX1_bestFriend 6 = .ok (.istore 6, 2) := by decide +kernel
theorem dX1_bestFriend_8 : decode cX1_bestFriend 8 = .ok (.iconst 0, 1) := by decide +kernel
theorem dX1_bestFriend_9 : decode cX1_bestFriend 9 = .ok (.istore 7, 2) := by decide +kernel
theorem dX1_bestFriend_11 : decode cX1_bestFriend 11 = .ok (.iload 7, 2) := by decide +kernel
theorem dX1_bestFriend_13 : decode cX1_bestFriend 13 = .ok (.aload_n 0, 1) := by decide +kernel
theorem dX1_bestFriend_14 : decode cX1_bestFriend 14 = .ok (.getfield 25, 3) := by decide +kernel
theorem dX1_bestFriend_17 : decode cX1_bestFriend 17 = .ok (.getfield 40, 3) := by decide +kernel
theorem dX1_bestFriend_20 : decode cX1_bestFriend 20 = .ok (.if_icmp .ge 67, 3) := by decide +kernel
theorem dX1_bestFriend_23 : decode cX1_bestFriend 23 = .ok (.iload 7, 2) := by decide +kernel
theorem dX1_bestFriend_25 : decode cX1_bestFriend 25 = .ok (.iload_n 1, 1) := by decide +kernel
theorem dX1_bestFriend_26 : decode cX1_bestFriend 26 = .ok (.if_icmp .ne 6, 3) := by decide +kernel
theorem dX1_bestFriend_29 : decode cX1_bestFriend 29 = .ok (.goto 52, 3) := by decide +kernel
theorem dX1_bestFriend_32 : decode cX1_bestFriend 32 = .ok (.aload_n 0, 1) := by decide +kernel
theorem dX1_bestFriend_33 : decode cX1_bestFriend 33 = .ok (.invokevirtual 32, 3) := by decide +kernel
theorem dX1_bestFriend_36 : decode cX1_bestFriend 36 = .ok (.pop, 1) := by decide +kernel
theorem dX1_bestFriend_37 : decode cX1_bestFriend 37 = .ok (.aload_n 0, 1) := by decide +kernel
theorem dX1_bestFriend_38 : decode cX1_bestFriend 38 = .ok (.getfield 12, 3) := by decide +kernel
theorem dX1_bestFriend_41 : decode cX1_bestFriend 41 = .ok (.getfield 90, 3) := by decide +kernel
theorem dX1_bestFriend_44 : decode cX1_bestFriend 44 = .ok (.iload_n 1, 1) := by decide +kernel
theorem dX1_bestFriend_45 : decode cX1_bestFriend 45 = .ok (.iload 7, 2) := by decide +kernel
theorem dX1_bestFriend_47 : decode cX1_bestFriend 47 = .ok (.iastore, 1) := by decide +kernel
theorem dX1_bestFriend_48 : decode cX1_bestFriend 48 = .ok (.aload_n 0, 1) := by decide +kernel
theorem dX1_bestFriend_49 : decode cX1_bestFriend 49 = .ok (.getfield 12, 3) := by decide +kernel
theorem dX1_bestFriend_52 : decode cX1_bestFriend 52 = .ok (.iload_n 2, 1) := by decide +kernel
theorem dX1_bestFriend_53 : decode cX1_bestFriend 53 = .ok (.iload_n 3, 1) := by decide +kernel
theorem dX1_bestFriend_54 : decode cX1_bestFriend 54 = .ok (.invokevirtual 93, 3) := by decide +kernel
theorem dX1_bestFriend_57 : decode cX1_bestFriend 57 = .ok (.istore 8, 2) := by decide +kernel
theorem dX1_bestFriend_59 : decode cX1_bestFriend 59 = .ok (.iload 8, 2) := by decide +kernel
theorem dX1_bestFriend_61 : decode cX1_bestFriend 61 = .ok (.bipush (-9), 2) := by decide +kernel
theorem dX1_bestFriend_63 : decode cX1_bestFriend 63 = .ok (.if_icmp .eq 18, 3) := by decide +kernel
theorem dX1_bestFriend_66 : decode cX1_bestFriend 66 = .ok (.iload 8, 2) := by decide +kernel
theorem dX1_bestFriend_68 : decode cX1_bestFriend 68 = .ok (.iload 6, 2) := by decide +kernel
theorem dX1_bestFriend_70 : decode cX1_bestFriend 70 = .ok (.if_icmp .ge 11, 3) := by decide +kernel
theorem dX1_bestFriend_73 : decode cX1_bestFriend 73 = .ok (.iload 8, 2) := by decide +kernel
theorem dX1_bestFriend_75 : decode cX1_bestFriend 75 = .ok (.istore 6, 2) := by decide +kernel
theorem dX1_bestFriend_77 : decode cX1_bestFriend 77 = .ok (.iload 7, 2) := by decide +kernel
theorem dX1_bestFriend_79 : decode cX1_bestFriend 79 = .ok (.istore 5, 2) := by decide +kernel
theorem dX1_bestFriend_81 : decode cX1_bestFriend 81 = .ok (.iinc 7 1, 3) := by decide +kernel
theorem dX1_bestFriend_84 : decode cX1_bestFriend 84 = .ok (.goto (-73), 3) := by decide +kernel
theorem dX1_bestFriend_87 : decode cX1_bestFriend 87 = .ok (.iload 4, 2) := by decide +kernel
theorem dX1_bestFriend_89 : decode cX1_bestFriend 89 = .ok (.ifCond .eq 10, 3) := by decide +kernel
theorem dX1_bestFriend_92 : decode cX1_bestFriend 92 = .ok (.iload 5, 2) := by decide +kernel
theorem dX1_bestFriend_94 : decode cX1_bestFriend 94 = .ok (.bipush (-9), 2) := by decide +kernel
theorem dX1_bestFriend_96 : decode cX1_bestFriend 96 = .ok (.if_icmp .ne 8, 3) := by decide +kernel
theorem dX1_bestFriend_99 : decode cX1_bestFriend 99 = .ok (.iload 5, 2) := by decide +kernel
theorem dX1_bestFriend_101 : decode cX1_bestFriend 101 = .ok (.goto 5, 3) := by decide +kernel
theorem dX1_bestFriend_104 : decode cX1_bestFriend 104 = .ok (.iload 6, 2) := by decide +kernel
theorem dX1_bestFriend_106 : decode cX1_bestFriend 106 = .ok (.ireturn, 1) := by decide +kernel
theorem dX1_bestSwap_0 : decode cX1_bestSwap 0 = .ok (.bipush (-9), 2) := by decide +kernel
theorem dX1_bestSwap_2 : decode cX1_bestSwap 2 = .ok (.istore_n 2, 1) := by decide +kernel
theorem dX1_bestSwap_3 : decode cX1_bestSwap 3 = .ok (.aload_n 0, 1) := by decide +kernel
theorem dX1_bestSwap_4 : decode cX1_bestSwap 4 = .ok (.iload_n 1, 1) := by decide +kernel
theorem dX1_bestSwap_5 : decode cX1_bestSwap 5 = .ok (.invokevirtual 48, 3) := by decide +kernel
theorem dX1_bestSwap_8 : decode cX1_bestSwap 8 = .ok (.invokevirtual 97, 3) := by decide +kernel
theorem dX1_bestSwap_11 : decode cX1_bestSwap 11 = .ok (.istore_n 3, 1) := by decide +kernel
theorem dX1_bestSwap_12 : decode cX1_bestSwap 12 = .ok (.iconst 0, 1) := by decide +kernel
theorem dX1_bestSwap_13 : decode cX1_bestSwap 13 = .ok (.istore 4, 2) := by decide +kernel
theorem dX1_bestSwap_15 : decode cX1_bestSwap 15 = .ok (.iload 4, 2) := by decide +kernel
theorem dX1_bestSwap_17 : decode cX1_bestSwap 17 = .ok (.aload_n 0, 1) := by decide +kernel
theorem dX1_bestSwap_18 : decode cX1_bestSwap 18 = .ok (.getfield 25, 3) := by decide +kernel
theorem dX1_bestSwap_21 : decode cX1_bestSwap 21 = .ok (.getfield 40, 3) := by decide +kernel
theorem dX1_bestSwap_24 : decode cX1_bestSwap 24 = .ok (.if_icmp .ge 62, 3) := by decide +kernel
theorem dX1_bestSwap_27 : decode cX1_bestSwap 27 = .ok (.iload 4, 2) := by decide +kernel
theorem dX1_bestSwap_29 : decode cX1_bestSwap 29 = .ok (.iconst 1, 1) := by decide +kernel
theorem dX1_bestSwap_30 : decode cX1_bestSwap 30 = .ok (.iadd, 1) := by decide +kernel
theorem dX1_bestSwap_31 : decode cX1_bestSwap 31 = .ok (.istore 5, 2) := by decide +kernel
theorem dX1_bestSwap_33 : decode cX1_bestSwap 33 = .ok (.iload 5, 2) := by decide +kernel
theorem dX1_bestSwap_35 : decode cX1_bestSwap 35 = .ok (.aload_n 0, 1) := by decide +kernel
theorem dX1_bestSwap_36 : decode cX1_bestSwap 36 = .ok (.getfield 25, 3) := by decide +kernel
theorem dX1_bestSwap_39 : decode cX1_bestSwap 39 = .ok (.getfield 40, 3) := by decide +kernel
theorem dX1_bestSwap_42 : decode cX1_bestSwap 42 = .ok (.if_icmp .ge 38, 3) := by decide +kernel
theorem dX1_bestSwap_45 : decode cX1_bestSwap 45 = .ok (.aload_n 0, 1) := by decide +kernel
theorem dX1_bestSwap_46 : decode cX1_bestSwap 46 = .ok (.iload 4, 2) := by decide +kernel
theorem dX1_bestSwap_48 : decode cX1_bestSwap 48 = .ok (.iload 5, 2) := by decide +kernel
theorem dX1_bestSwap_50 : decode cX1_bestSwap 50 = .ok (.iload_n 1, 1) := by decide +kernel
theorem dX1_bestSwap_51 : decode cX1_bestSwap 51 = .ok (.invokevirtual 101, 3) := by decide +kernel
theorem dX1_bestSwap_54 : decode cX1_bestSwap 54 = .ok (.istore 6, 2) := by decide +kernel
theorem dX1_bestSwap_56 : decode cX1_bestSwap 56 = .ok (.iload 6, 2) := by decide +kernel
theorem dX1_bestSwap_58 : decode cX1_bestSwap 58 = .ok (.iload_n 3, 1) := by decide +kernel
theorem dX1_bestSwap_59 : decode cX1_bestSwap 59 = .ok (.if_icmp .le 15, 3) := by decide +kernel
theorem dX1_bestSwap_62 : decode cX1_bestSwap 62 = .ok (.iload 6, 2) := by decide +kernel
theorem dX1_bestSwap_64 : decode cX1_bestSwap 64 = .ok (.istore_n 3, 1) := by decide +kernel
theorem dX1_bestSwap_65 : decode cX1_bestSwap 65 = .ok (.bipush 10, 2) := by decide +kernel
theorem dX1_bestSwap_67 : decode cX1_bestSwap 67 = .ok (.iload 4, 2) := by decide +kernel
theorem dX1_bestSwap_69 : decode cX1_bestSwap 69 = .ok (.imul, 1) := by decide +kernel
theorem dX1_bestSwap_70 : decode cX1_bestSwap 70 = .ok (.iload 5, 2) := by decide +kernel
theorem dX1_bestSwap_72 : decode cX1_bestSwap 72 = .ok (.iadd, 1) := by decide +kernel
theorem dX1_bestSwap_73 : decode cX1_bestSwap 73 = .ok (.istore_n 2, 1) := by decide +kernel
theorem dX1_bestSwap_74 : decode cX1_bestSwap 74 = .ok (.iinc 5 1, 3) := by decide +kernel
theorem dX1_bestSwap_77 : decode cX1_bestSwap 77 = .ok (.goto (-44), 3) := by decide +kernel
theorem dX1_bestSwap_80 : decode cX1_bestSwap 80 = .ok (.iinc 4 1, 3) := by decide +kernel
theorem dX1_bestSwap_83 : decode cX1_bestSwap 83 = .ok (.goto (-68), 3) := by decide +kernel
theorem dX1_bestSwap_86 : decode cX1_bestSwap 86 = .ok (.iload_n 2, 1) := by decide +kernel
theorem dX1_bestSwap_87 : decode cX1_bestSwap 87 = .ok (.ireturn, 1) := by decide +kernel
theorem dX1_knownIfExchanged_0 : decode cX1_knownIfExchanged 0 = .ok (.aload_n 0, 1) := by decide +kernel
theorem dX1_knownIfExchanged_1 : decode cX1_knownIfExchanged 1 = .ok (.invokevirtual 32, 3) := by decide +kernel
theorem dX1_knownIfExchanged_4 : decode cX1_knownIfExchanged 4 = .ok (.pop, 1) := by decide +kernel
theorem dX1_knownIfExchanged_5 : decode cX1_knownIfExchanged 5 = .ok (.aload_n 0, 1) := by decide +kernel
theorem dX1_knownIfExchanged_6 : decode cX1_knownIfExchanged 6 = .ok (.getfield 12, 3) := by decide +kernel
theorem dX1_knownIfExchanged_9 : decode cX1_knownIfExchanged 9 = .ok (.iload_n 1, 1) := by decide +kernel
theorem dX1_knownIfExchanged_10 : decode cX1_knownIfExchanged 10 = .ok (.iload_n 2, 1) := by decide +kernel
theorem dX1_knownIfExchanged_11 : decode cX1_knownIfExchanged 11 = .ok (.invokevirtual 104, 3) := by decide +kernel
theorem dX1_knownIfExchanged_14 : decode cX1_knownIfExchanged 14 = .ok (.aload_n 0, 1) := by decide +kernel
theorem dX1_knownIfExchanged_15 : decode cX1_knownIfExchanged 15 = .ok (.getfield 12, 3) := by decide +kernel
theorem dX1_knownIfExchanged_18 : decode cX1_knownIfExchanged 18 = .ok (.iload_n 3, 1) := by decide +kernel
theorem dX1_knownIfExchanged_19 : decode cX1_knownIfExchanged 19 = .ok (.invokevirtual 36, 3) := by decide +kernel
theorem dX1_knownIfExchanged_22 : decode cX1_knownIfExchanged 22 = .ok (.aload_n 0, 1) := by decide +kernel
theorem dX1_knownIfExchanged_23 : decode cX1_knownIfExchanged 23 = .ok (.getfield 12, 3) := by decide +kernel
theorem dX1_knownIfExchanged_26 : decode cX1_knownIfExchanged 26 = .ok (.invokevirtual 97, 3) := by decide +kernel
theorem dX1_knownIfExchanged_29 : decode cX1_knownIfExchanged 29 = .ok (.ireturn, 1) := by decide +kernel
theorem dX1_purpleLoss_0 : decode cX1_purpleLoss 0 = .ok (.aload_n 0, 1) := by decide +kernel
theorem dX1_purpleLoss_1 : decode cX1_purpleLoss 1 = .ok (.iload_n 1, 1) := by decide +kernel
theorem dX1_purpleLoss_2 : decode cX1_purpleLoss 2 = .ok (.invokevirtual 48, 3) := by decide +kernel
theorem dX1_purpleLoss_5 : decode cX1_purpleLoss 5 = .ok (.getfield 107, 3) := by decide +kernel
theorem dX1_purpleLoss_8 : decode cX1_purpleLoss 8 = .ok (.invokestatic 56, 3) := by decide +kernel
theorem dX1_purpleLoss_11 : decode cX1_purpleLoss 11 = .ok (.istore_n 2, 1) := by decide +kernel
theorem dX1_purpleLoss_12 : decode cX1_purpleLoss 12 = .ok (.aload_n 0, 1) := by decide +kernel
theorem dX1_purpleLoss_13 : decode cX1_purpleLoss 13 = .ok (.invokevirtual 32, 3) := by decide +kernel
theorem dX1_purpleLoss_16 : decode cX1_purpleLoss 16 = .ok (.pop, 1) := by decide +kernel
theorem dX1_purpleLoss_17 : decode cX1_purpleLoss 17 = .ok (.aload_n 0, 1) := by decide +kernel
theorem dX1_purpleLoss_18 : decode cX1_purpleLoss 18 = .ok (.getfield 12, 3) := by decide +kernel
theorem dX1_purpleLoss_21 : decode cX1_purpleLoss 21 = .ok (.iconst 1, 1) := by decide +kernel
theorem dX1_purpleLoss_22 : decode cX1_purpleLoss 22 = .ok (.putfield 111, 3) := by decide +kernel
theorem dX1_purpleLoss_25 : decode cX1_purpleLoss 25 = .ok (.aload_n 0, 1) := by decide +kernel
theorem dX1_purpleLoss_26 : decode cX1_purpleLoss 26 = .ok (.getfield 12, 3) := by decide +kernel
theorem dX1_purpleLoss_29 : decode cX1_purpleLoss 29 = .ok (.iload_n 1, 1) := by decide +kernel
theorem dX1_purpleLoss_30 : decode cX1_purpleLoss 30 = .ok (.invokevirtual 36, 3) := by decide +kernel
theorem dX1_purpleLoss_33 : decode cX1_purpleLoss 33 = .ok (.iload_n 2, 1) := by decide +kernel
theorem dX1_purpleLoss_34 : decode cX1_purpleLoss 34 = .ok (.aload_n 0, 1) := by decide +kernel
theorem dX1_purpleLoss_35 : decode cX1_purpleLoss 35 = .ok (.getfield 12, 3) := by decide +kernel
theorem dX1_purpleLoss_38 : decode cX1_purpleLoss 38 = .ok (.getfield 107, 3) := by decide +kernel
theorem dX1_purpleLoss_41 : decode cX1_purpleLoss 41 = .ok (.invokestatic 56, 3) := by decide +kernel
theorem dX1_purpleLoss_44 : decode cX1_purpleLoss 44 = .ok (.isub, 1) := by decide +kernel
theorem dX1_purpleLoss_45 : decode cX1_purpleLoss 45 = .ok (.ireturn, 1) := by decide +kernel
theorem dX1_friendsByRow_0 : decode cX1_friendsByRow 0 = .ok (.iconst 0, 1) := by decide +kernel
theorem dX1_friendsByRow_1 : decode cX1_friendsByRow 1 = .ok (.istore 5, 2) := by decide +kernel
theorem dX1_friendsByRow_3 : decode cX1_friendsByRow 3 = .ok (.iconst 0, 1) := by decide +kernel
theorem dX1_friendsByRow_4 : decode cX1_friendsByRow 4 = .ok (.istore 6, 2) := by decide +kernel
theorem dX1_friendsByRow_6 : decode cX1_friendsByRow 6 = .ok (.iload 6, 2) := by decide +kernel
theorem dX1_friendsByRow_8 : decode cX1_friendsByRow 8 = .ok (.iconst 5, 1) := by decide +kernel
theorem dX1_friendsByRow_9 : decode cX1_friendsByRow 9 = .ok (.if_icmp .gt 45, 3) := by decide +kernel
theorem dX1_friendsByRow_12 : decode cX1_friendsByRow 12 = .ok (.aload_n 0, 1) := by decide +kernel
theorem dX1_friendsByRow_13 : decode cX1_friendsByRow 13 = .ok (.invokevirtual 32, 3) := by decide +kernel
theorem dX1_friendsByRow_16 : decode cX1_friendsByRow 16 = .ok (.pop, 1) := by decide +kernel
theorem dX1_friendsByRow_17 : decode cX1_friendsByRow 17 = .ok (.aload_n 0, 1) := by decide +kernel
theorem dX1_friendsByRow_18 : decode cX1_friendsByRow 18 = .ok (.getfield 12, 3) := by decide +kernel
theorem dX1_friendsByRow_21 : decode cX1_friendsByRow 21 = .ok (.getfield 90, 3) := by decide +kernel
theorem dX1_friendsByRow_24 : decode cX1_friendsByRow 24 = .ok (.iload_n 2, 1) := by decide +kernel
theorem dX1_friendsByRow_25 : decode cX1_friendsByRow 25 = .ok (.iload 6, 2) := by decide +kernel
theorem dX1_friendsByRow_27 : decode cX1_friendsByRow 27 = .ok (.iastore, 1) := by decide +kernel
theorem dX1_friendsByRow_28 : decode cX1_friendsByRow 28 = .ok (.aload_n 0, 1) := by decide +kernel
theorem dX1_friendsByRow_29 : decode cX1_friendsByRow 29 = .ok (.iload_n 1, 1) := by decide +kernel
theorem dX1_friendsByRow_30 : decode cX1_friendsByRow 30 = .ok (.aload_n 3, 1) := by decide +kernel
theorem dX1_friendsByRow_31 : decode cX1_friendsByRow 31 = .ok (.iload 4, 2) := by decide +kernel
theorem dX1_friendsByRow_33 : decode cX1_friendsByRow 33 = .ok (.invokevirtual 115, 3) := by decide +kernel
theorem dX1_friendsByRow_36 : decode cX1_friendsByRow 36 = .ok (.ifCond .eq 12, 3) := by decide +kernel
theorem dX1_friendsByRow_39 : decode cX1_friendsByRow 39 = .ok (.iload 5, 2) := by decide +kernel
theorem dX1_friendsByRow_41 : decode cX1_friendsByRow 41 = .ok (.iconst 1, 1) := by decide +kernel
theorem dX1_friendsByRow_42 : decode cX1_friendsByRow 42 = .ok (.iload 6, 2) := by decide +kernel
theorem dX1_friendsByRow_44 : decode cX1_friendsByRow 44 = .ok (.ishl, 1) := by decide +kernel
theorem dX1_friendsByRow_45 : decode cX1_friendsByRow 45 = .ok (.ior, 1) := by decide +kernel
theorem dX1_friendsByRow_46 : decode cX1_friendsByRow 46 = .ok (.istore 5, 2) := by decide +kernel
theorem dX1_friendsByRow_48 : decode cX1_friendsByRow 48 = .ok (.iinc 6 1, 3) := by decide +kernel
theorem dX1_friendsByRow_51 : decode cX1_friendsByRow 51 = .ok (.goto (-45), 3) := by decide +kernel
theorem dX1_friendsByRow_54 : decode cX1_friendsByRow 54 = .ok (.iload 5, 2) := by decide +kernel
theorem dX1_friendsByRow_56 : decode cX1_friendsByRow 56 = .ok (.ireturn, 1) := by decide +kernel
theorem dX1_goesByRow_0 : decode cX1_goesByRow 0 = .ok (.iconst 0, 1) := by decide +kernel
theorem dX1_goesByRow_1 : decode cX1_goesByRow 1 = .ok (.istore 4, 2) := by decide +kernel
theorem dX1_goesByRow_3 : decode cX1_goesByRow 3 = .ok (.iload 4, 2) := by decide +kernel
theorem dX1_goesByRow_5 : decode cX1_goesByRow 5 = .ok (.iload_n 3, 1) := by decide +kernel
theorem dX1_goesByRow_6 : decode cX1_goesByRow 6 = .ok (.if_icmp .ge 44, 3) := by decide +kernel
theorem dX1_goesByRow_9 : decode cX1_goesByRow 9 = .ok (.iload 4, 2) := by decide +kernel
theorem dX1_goesByRow_11 : decode cX1_goesByRow 11 = .ok (.aload_n 2, 1) := by decide +kernel
theorem dX1_goesByRow_12 : decode cX1_goesByRow 12 = .ok (.arraylength, 1) := by decide +kernel
theorem dX1_goesByRow_13 : decode cX1_goesByRow 13 = .ok (.if_icmp .ge 37, 3) := by decide +kernel
theorem dX1_goesByRow_16 : decode cX1_goesByRow 16 = .ok (.aload_n 2, 1) := by decide +kernel
theorem dX1_goesByRow_17 : decode cX1_goesByRow 17 = .ok (.iload 4, 2) := by decide +kernel
theorem dX1_goesByRow_19 : decode cX1_goesByRow 19 = .ok (.iaload, 1) := by decide +kernel
theorem dX1_goesByRow_20 : decode cX1_goesByRow 20 = .ok (.aload_n 0, 1) := by decide +kernel
theorem dX1_goesByRow_21 : decode cX1_goesByRow 21 = .ok (.getfield 12, 3) := by decide +kernel
theorem dX1_goesByRow_24 : decode cX1_goesByRow 24 = .ok (.iload_n 1, 1) := by decide +kernel
theorem dX1_goesByRow_25 : decode cX1_goesByRow 25 = .ok (.invokevirtual 52, 3) := by decide +kernel
theorem dX1_goesByRow_28 : decode cX1_goesByRow 28 = .ok (.invokestatic 56, 3) := by decide +kernel
theorem dX1_goesByRow_31 : decode cX1_goesByRow 31 = .ok (.if_icmp .eq 5, 3) := by decide +kernel
theorem dX1_goesByRow_34 : decode cX1_goesByRow 34 = .ok (.iconst 0, 1) := by decide +kernel
theorem dX1_goesByRow_35 : decode cX1_goesByRow 35 = .ok (.ireturn, 1) := by decide +kernel
theorem dX1_goesByRow_36 : decode cX1_goesByRow 36 = .ok (.aload_n 0, 1) := by decide +kernel
theorem dX1_goesByRow_37 : decode cX1_goesByRow 37 = .ok (.getfield 12, 3) := by decide +kernel
theorem dX1_goesByRow_40 : decode cX1_goesByRow 40 = .ok (.iconst 1, 1) := by decide +kernel
theorem dX1_goesByRow_41 : decode cX1_goesByRow 41 = .ok (.invokevirtual 36, 3) := by decide +kernel
theorem dX1_goesByRow_44 : decode cX1_goesByRow 44 = .ok (.iinc 4 1, 3) := by decide +kernel
theorem dX1_goesByRow_47 : decode cX1_goesByRow 47 = .ok (.goto (-44), 3) := by decide +kernel
theorem dX1_goesByRow_50 : decode cX1_goesByRow 50 = .ok (.iconst 1, 1) := by decide +kernel
theorem dX1_goesByRow_51 : decode cX1_goesByRow 51 = .ok (.ireturn, 1) := by decide +kernel
theorem dX1_settledPair_0 : decode cX1_settledPair 0 = .ok (.iconst 0, 1) := by decide +kernel
theorem dX1_settledPair_1 : decode cX1_settledPair 1 = .ok (.istore 4, 2) := by decide +kernel
theorem dX1_settledPair_3 : decode cX1_settledPair 3 = .ok (.iload 4, 2) := by decide +kernel
theorem dX1_settledPair_5 : decode cX1_settledPair 5 = .ok (.iconst 4, 1) := by decide +kernel
theorem dX1_settledPair_6 : decode cX1_settledPair 6 = .ok (.if_icmp .ge 51, 3) := by decide +kernel
theorem dX1_settledPair_9 : decode cX1_settledPair 9 = .ok (.aload_n 0, 1) := by decide +kernel
theorem dX1_settledPair_10 : decode cX1_settledPair 10 = .ok (.iload 4, 2) := by decide +kernel
theorem dX1_settledPair_12 : decode cX1_settledPair 12 = .ok (.iconst 2, 1) := by decide +kernel
theorem dX1_settledPair_13 : decode cX1_settledPair 13 = .ok (.idiv, 1) := by decide +kernel
theorem dX1_settledPair_14 : decode cX1_settledPair 14 = .ok (.iload_n 1, 1) := by decide +kernel
theorem dX1_settledPair_15 : decode cX1_settledPair 15 = .ok (.ishl, 1) := by decide +kernel
theorem dX1_settledPair_16 : decode cX1_settledPair 16 = .ok (.iload 4, 2) := by decide +kernel
theorem dX1_settledPair_18 : decode cX1_settledPair 18 = .ok (.iconst 2, 1) := by decide +kernel
theorem dX1_settledPair_19 : decode cX1_settledPair 19 = .ok (.irem, 1) := by decide +kernel
theorem dX1_settledPair_20 : decode cX1_settledPair 20 = .ok (.iload_n 2, 1) := by decide +kernel
theorem dX1_settledPair_21 : decode cX1_settledPair 21 = .ok (.ishl, 1) := by decide +kernel
theorem dX1_settledPair_22 : decode cX1_settledPair 22 = .ok (.ior, 1) := by decide +kernel
theorem dX1_settledPair_23 : decode cX1_settledPair 23 = .ok (.iload_n 3, 1) := by decide +kernel
theorem dX1_settledPair_24 : decode cX1_settledPair 24 = .ok (.invokevirtual 83, 3) := by decide +kernel
theorem dX1_settledPair_27 : decode cX1_settledPair 27 = .ok (.aload_n 0, 1) := by decide +kernel
theorem dX1_settledPair_28 : decode cX1_settledPair 28 = .ok (.getfield 18, 3) := by decide +kernel
theorem dX1_settledPair_31 : decode cX1_settledPair 31 = .ok (.iload 4, 2) := by decide +kernel
theorem dX1_settledPair_33 : decode cX1_settledPair 33 = .ok (.aload_n 0, 1) := by decide +kernel
theorem dX1_settledPair_34 : decode cX1_settledPair 34 = .ok (.iload_n 1, 1) := by decide +kernel
theorem dX1_settledPair_35 : decode cX1_settledPair 35 = .ok (.invokevirtual 119, 3) := by decide +kernel
theorem dX1_settledPair_38 : decode cX1_settledPair 38 = .ok (.iastore, 1) := by decide +kernel
theorem dX1_settledPair_39 : decode cX1_settledPair 39 = .ok (.aload_n 0, 1) := by decide +kernel
theorem dX1_settledPair_40 : decode cX1_settledPair 40 = .ok (.getfield 22, 3) := by decide +kernel
theorem dX1_settledPair_43 : decode cX1_settledPair 43 = .ok (.iload 4, 2) := by decide +kernel
theorem dX1_settledPair_45 : decode cX1_settledPair 45 = .ok (.aload_n 0, 1) := by decide +kernel
theorem dX1_settledPair_46 : decode cX1_settledPair 46 = .ok (.iload_n 2, 1) := by decide +kernel
theorem dX1_settledPair_47 : decode cX1_settledPair 47 = .ok (.invokevirtual 119, 3) := by decide +kernel
theorem dX1_settledPair_50 : decode cX1_settledPair 50 = .ok (.iastore, 1) := by decide +kernel
theorem dX1_settledPair_51 : decode cX1_settledPair 51 = .ok (.iinc 4 1, 3) := by decide +kernel
theorem dX1_settledPair_54 : decode cX1_settledPair 54 = .ok (.goto (-51), 3) := by decide +kernel
theorem dX1_settledPair_57 : decode cX1_settledPair 57 = .ok (.iconst 0, 1) := by decide +kernel
theorem dX1_settledPair_58 : decode cX1_settledPair 58 = .ok (.istore 4, 2) := by decide +kernel
theorem dX1_settledPair_60 : decode cX1_settledPair 60 = .ok (.iload 4, 2) := by decide +kernel
theorem dX1_settledPair_62 : decode cX1_settledPair 62 = .ok (.iconst 4, 1) := by decide +kernel
theorem dX1_settledPair_63 : decode cX1_settledPair 63 = .ok (.if_icmp .ge 68, 3) := by decide +kernel
theorem dX1_settledPair_66 : decode cX1_settledPair 66 = .ok (.iload 4, 2) := by decide +kernel
theorem dX1_settledPair_68 : decode cX1_settledPair 68 = .ok (.iconst 2, 1) := by decide +kernel
theorem dX1_settledPair_69 : decode cX1_settledPair 69 = .ok (.ixor, 1) := by decide +kernel
theorem dX1_settledPair_70 : decode cX1_settledPair 70 = .ok (.istore 5, 2) := by decide +kernel
theorem dX1_settledPair_72 : decode cX1_settledPair 72 = .ok (.iload 4, 2) := by decide +kernel
theorem dX1_settledPair_74 : decode cX1_settledPair 74 = .ok (.iconst 1, 1) := by decide +kernel
theorem dX1_settledPair_75 : decode cX1_settledPair 75 = .ok (.ixor, 1) := by decide +kernel
theorem dX1_settledPair_76 : decode cX1_settledPair 76 = .ok (.istore 6, 2) := by decide +kernel
theorem dX1_settledPair_78 : decode cX1_settledPair 78 = .ok (.aload_n 0, 1) := by decide +kernel
theorem dX1_settledPair_79 : decode cX1_settledPair 79 = .ok (.getfield 18, 3) := by decide +kernel
theorem dX1_settledPair_82 : decode cX1_settledPair 82 = .ok (.iload 5, 2) := by decide +kernel
theorem dX1_settledPair_84 : decode cX1_settledPair 84 = .ok (.iaload, 1) := by decide +kernel
theorem dX1_settledPair_85 : decode cX1_settledPair 85 = .ok (.aload_n 0, 1) := by decide +kernel
theorem dX1_settledPair_86 : decode cX1_settledPair 86 = .ok (.getfield 18, 3) := by decide +kernel
theorem dX1_settledPair_89 : decode cX1_settledPair 89 = .ok (.iload 4, 2) := by decide +kernel
theorem dX1_settledPair_91 : decode cX1_settledPair 91 = .ok (.iaload, 1) := by decide +kernel
theorem dX1_settledPair_92 : decode cX1_settledPair 92 = .ok (.if_icmp .gt 33, 3) := by decide +kernel
theorem dX1_settledPair_95 : decode cX1_settledPair 95 = .ok (.aload_n 0, 1) := by decide +kernel
theorem dX1_settledPair_96 : decode cX1_settledPair 96 = .ok (.getfield 22, 3) := by decide +kernel
theorem dX1_settledPair_99 : decode cX1_settledPair 99 = .ok (.iload 6, 2) := by decide +kernel
theorem dX1_settledPair_101 : decode cX1_settledPair 101 = .ok (.iaload, 1) := by decide +kernel
theorem dX1_settledPair_102 : decode cX1_settledPair 102 = .ok (.aload_n 0, 1) := by decide +kernel
theorem dX1_settledPair_103 : decode cX1_settledPair 103 = .ok (.getfield 22, 3) := by decide +kernel
theorem dX1_settledPair_106 : decode cX1_settledPair 106 = .ok (.iload 4, 2) := by decide +kernel
theorem dX1_settledPair_108 : decode cX1_settledPair 108 = .ok (.iaload, 1) := by decide +kernel
theorem dX1_settledPair_109 : decode cX1_settledPair 109 = .ok (.if_icmp .gt 16, 3) := by decide +kernel
theorem dX1_settledPair_112 : decode cX1_settledPair 112 = .ok (.iload 4, 2) := by decide +kernel
theorem dX1_settledPair_114 : decode cX1_settledPair 114 = .ok (.iconst 2, 1) := by decide +kernel
theorem dX1_settledPair_115 : decode cX1_settledPair 115 = .ok (.idiv, 1) := by decide +kernel
theorem dX1_settledPair_116 : decode cX1_settledPair 116 = .ok (.bipush 10, 2) := by decide +kernel
theorem dX1_settledPair_118 : decode cX1_settledPair 118 = .ok (.imul, 1) := by decide +kernel
theorem dX1_settledPair_119 : decode cX1_settledPair 119 = .ok (.iload 4, 2) := by decide +kernel
theorem dX1_settledPair_121 : decode cX1_settledPair 121 = .ok (.iconst 2, 1) := by decide +kernel
theorem dX1_settledPair_122 : decode cX1_settledPair 122 = .ok (.irem, 1) := by decide +kernel
theorem dX1_settledPair_123 : decode cX1_settledPair 123 = .ok (.iadd, 1) := by decide +kernel
theorem dX1_settledPair_124 : decode cX1_settledPair 124 = .ok (.ireturn, 1) := by decide +kernel
theorem dX1_settledPair_125 : decode cX1_settledPair 125 = .ok (.iinc 4 1, 3) := by decide +kernel
theorem dX1_settledPair_128 : decode cX1_settledPair 128 = .ok (.goto (-68), 3) := by decide +kernel
theorem dX1_settledPair_131 : decode cX1_settledPair 131 = .ok (.bipush (-9), 2) := by decide +kernel
theorem dX1_settledPair_133 : decode cX1_settledPair 133 = .ok (.ireturn, 1) := by decide +kernel
theorem dX1_gain_0 : decode cX1_gain 0 = .ok (.aload_n 0, 1) := by decide +kernel
theorem dX1_gain_1 : decode cX1_gain 1 = .ok (.getfield 25, 3) := by decide +kernel
theorem dX1_gain_4 : decode cX1_gain 4 = .ok (.getfield 90, 3) := by decide +kernel
theorem dX1_gain_7 : decode cX1_gain 7 = .ok (.iload_n 1, 1) := by decide +kernel
theorem dX1_gain_8 : decode cX1_gain 8 = .ok (.iaload, 1) := by decide +kernel
theorem dX1_gain_9 : decode cX1_gain 9 = .ok (.istore_n 2, 1) := by decide +kernel
theorem dX1_gain_10 : decode cX1_gain 10 = .ok (.aload_n 0, 1) := by decide +kernel
theorem dX1_gain_11 : decode cX1_gain 11 = .ok (.getfield 25, 3) := by decide +kernel
theorem dX1_gain_14 : decode cX1_gain 14 = .ok (.iload_n 2, 1) := by decide +kernel
theorem dX1_gain_15 : decode cX1_gain 15 = .ok (.invokevirtual 122, 3) := by decide +kernel
theorem dX1_gain_18 : decode cX1_gain 18 = .ok (.ifCond .eq 17, 3) := by decide +kernel
theorem dX1_gain_21 : decode cX1_gain 21 = .ok (.aload_n 0, 1) := by decide +kernel
theorem dX1_gain_22 : decode cX1_gain 22 = .ok (.getfield 12, 3) := by decide +kernel
theorem dX1_gain_25 : decode cX1_gain 25 = .ok (.iload_n 2, 1) := by decide +kernel
theorem dX1_gain_26 : decode cX1_gain 26 = .ok (.invokevirtual 52, 3) := by decide +kernel
theorem dX1_gain_29 : decode cX1_gain 29 = .ok (.invokestatic 56, 3) := by decide +kernel
theorem dX1_gain_32 : decode cX1_gain 32 = .ok (.goto 4, 3) := by decide +kernel
theorem dX1_gain_35 : decode cX1_gain 35 = .ok (.iconst 0, 1) := by decide +kernel
theorem dX1_gain_36 : decode cX1_gain 36 = .ok (.istore_n 3, 1) := by decide +kernel
theorem dX1_gain_37 : decode cX1_gain 37 = .ok (.iload_n 3, 1) := by decide +kernel
theorem dX1_gain_38 : decode cX1_gain 38 = .ok (.aload_n 0, 1) := by decide +kernel
theorem dX1_gain_39 : decode cX1_gain 39 = .ok (.getfield 25, 3) := by decide +kernel
theorem dX1_gain_42 : decode cX1_gain 42 = .ok (.iload_n 1, 1) := by decide +kernel
theorem dX1_gain_43 : decode cX1_gain 43 = .ok (.invokevirtual 52, 3) := by decide +kernel
theorem dX1_gain_46 : decode cX1_gain 46 = .ok (.aload_n 0, 1) := by decide +kernel
theorem dX1_gain_47 : decode cX1_gain 47 = .ok (.getfield 12, 3) := by decide +kernel
theorem dX1_gain_50 : decode cX1_gain 50 = .ok (.getfield 107, 3) := by decide +kernel
theorem dX1_gain_53 : decode cX1_gain 53 = .ok (.land, 1) := by decide +kernel
theorem dX1_gain_54 : decode cX1_gain 54 = .ok (.invokestatic 56, 3) := by decide +kernel
theorem dX1_gain_57 : decode cX1_gain 57 = .ok (.isub, 1) := by decide +kernel
theorem dX1_gain_58 : decode cX1_gain 58 = .ok (.ireturn, 1) := by decide +kernel
theorem dX1_waysToLearn_0 : decode cX1_waysToLearn 0 = .ok (.lconst 0, 1) := by decide +kernel
theorem dX1_waysToLearn_1 : decode cX1_waysToLearn 1 = .ok (.lstore 5, 2) := by decide +kernel
theorem dX1_waysToLearn_3 : decode cX1_waysToLearn 3 = .ok (.iconst 0, 1) := by decide +kernel
theorem dX1_waysToLearn_4 : decode cX1_waysToLearn 4 = .ok (.istore 7, 2) := by decide +kernel
theorem dX1_waysToLearn_6 : decode cX1_waysToLearn 6 = .ok (.iload 7, 2) := by decide +kernel
theorem dX1_waysToLearn_8 : decode cX1_waysToLearn 8 = .ok (.iconst 1, 1) := by decide +kernel
theorem dX1_waysToLearn_9 : decode cX1_waysToLearn 9 = .ok (.iload_n 3, 1) := by decide +kernel
theorem dX1_waysToLearn_10 : decode cX1_waysToLearn 10 = .ok (.ishl, 1) := by decide +kernel
theorem dX1_waysToLearn_11 : decode cX1_waysToLearn 11 = .ok (.if_icmp .ge 90, 3) := by decide +kernel
theorem dX1_waysToLearn_14 : decode cX1_waysToLearn 14 = .ok (.aload_n 0, 1) := by decide +kernel
theorem dX1_waysToLearn_15 : decode cX1_waysToLearn 15 = .ok (.invokevirtual 32, 3) := by decide +kernel
theorem dX1_waysToLearn_18 : decode cX1_waysToLearn 18 = .ok (.pop, 1) := by decide +kernel
theorem dX1_waysToLearn_19 : decode cX1_waysToLearn 19 = .ok (.iconst 0, 1) := by decide +kernel
theorem dX1_waysToLearn_20 : decode cX1_waysToLearn 20 = .ok (.istore 8, 2) := by decide +kernel
theorem dX1_waysToLearn_22 : decode cX1_waysToLearn 22 = .ok (.iload 8, 2) := by decide +kernel
theorem dX1_waysToLearn_24 : decode cX1_waysToLearn 24 = .ok (.iload_n 3, 1) := by decide +kernel
theorem dX1_waysToLearn_25 : decode cX1_waysToLearn 25 = .ok (.if_icmp .ge 39, 3) := by decide +kernel
theorem dX1_waysToLearn_28 : decode cX1_waysToLearn 28 = .ok (.aload_n 0, 1) := by decide +kernel
theorem dX1_waysToLearn_29 : decode cX1_waysToLearn 29 = .ok (.getfield 12, 3) := by decide +kernel
theorem dX1_waysToLearn_32 : decode cX1_waysToLearn 32 = .ok (.iload 7, 2) := by decide +kernel
theorem dX1_waysToLearn_34 : decode cX1_waysToLearn 34 = .ok (.iconst 1, 1) := by decide +kernel
theorem dX1_waysToLearn_35 : decode cX1_waysToLearn 35 = .ok (.iload 8, 2) := by decide +kernel
theorem dX1_waysToLearn_37 : decode cX1_waysToLearn 37 = .ok (.ishl, 1) := by decide +kernel
theorem dX1_waysToLearn_38 : decode cX1_waysToLearn 38 = .ok (.iand, 1) := by decide +kernel
theorem dX1_waysToLearn_39 : decode cX1_waysToLearn 39 = .ok (.ifCond .eq 7, 3) := by decide +kernel
theorem dX1_waysToLearn_42 : decode cX1_waysToLearn 42 = .ok (.iconst 1, 1) := by decide +kernel
theorem dX1_waysToLearn_43 : decode cX1_waysToLearn 43 = .ok (.goto 4, 3) := by decide +kernel
theorem dX1_waysToLearn_46 : decode cX1_waysToLearn 46 = .ok (.iconst 0, 1) := by decide +kernel
theorem dX1_waysToLearn_47 : decode cX1_waysToLearn 47 = .ok (.putfield 126, 3) := by decide +kernel
theorem dX1_waysToLearn_50 : decode cX1_waysToLearn 50 = .ok (.aload_n 0, 1) := by decide +kernel
theorem dX1_waysToLearn_51 : decode cX1_waysToLearn 51 = .ok (.getfield 12, 3) := by decide +kernel
theorem dX1_waysToLearn_54 : decode cX1_waysToLearn 54 = .ok (.iconst 1, 1) := by decide +kernel
theorem dX1_waysToLearn_55 : decode cX1_waysToLearn 55 = .ok (.invokevirtual 36, 3) := by decide +kernel
theorem dX1_waysToLearn_58 : decode cX1_waysToLearn 58 = .ok (.iinc 8 1, 3) := by decide +kernel
theorem dX1_waysToLearn_61 : decode cX1_waysToLearn 61 = .ok (.goto (-39), 3) := by decide +kernel
theorem dX1_waysToLearn_64 : decode cX1_waysToLearn 64 = .ok (.aload_n 0, 1) := by decide +kernel
theorem dX1_waysToLearn_65 : decode cX1_waysToLearn 65 = .ok (.getfield 12, 3) := by decide +kernel
theorem dX1_waysToLearn_68 : decode cX1_waysToLearn 68 = .ok (.iload_n 1, 1) := by decide +kernel
theorem dX1_waysToLearn_69 : decode cX1_waysToLearn 69 = .ok (.iload_n 2, 1) := by decide +kernel
theorem dX1_waysToLearn_70 : decode cX1_waysToLearn 70 = .ok (.invokevirtual 44, 3) := by decide +kernel
theorem dX1_waysToLearn_73 : decode cX1_waysToLearn 73 = .ok (.ifCond .eq 22, 3) := by decide +kernel
theorem dX1_waysToLearn_76 : decode cX1_waysToLearn 76 = .ok (.lload 5, 2) := by decide +kernel
theorem dX1_waysToLearn_78 : decode cX1_waysToLearn 78 = .ok (.iload 4, 2) := by decide +kernel
theorem dX1_waysToLearn_80 : decode cX1_waysToLearn 80 = .ok (.iconst 1, 1) := by decide +kernel
theorem dX1_waysToLearn_81 : decode cX1_waysToLearn 81 = .ok (.isub, 1) := by decide +kernel
theorem dX1_waysToLearn_82 : decode cX1_waysToLearn 82 = .ok (.iload_n 3, 1) := by decide +kernel
theorem dX1_waysToLearn_83 : decode cX1_waysToLearn 83 = .ok (.iload 7, 2) := by decide +kernel
theorem dX1_waysToLearn_85 : decode cX1_waysToLearn 85 = .ok (.invokestatic 78, 3) := by decide +kernel
theorem dX1_waysToLearn_88 : decode cX1_waysToLearn 88 = .ok (.isub, 1) := by decide +kernel
theorem dX1_waysToLearn_89 : decode cX1_waysToLearn 89 = .ok (.invokestatic 129, 3) := by decide +kernel
theorem dX1_waysToLearn_92 : decode cX1_waysToLearn 92 = .ok (.ladd, 1) := by decide +kernel
theorem dX1_waysToLearn_93 : decode cX1_waysToLearn 93 = .ok (.lstore 5, 2) := by decide +kernel
theorem dX1_waysToLearn_95 : decode cX1_waysToLearn 95 = .ok (.iinc 7 1, 3) := by decide +kernel
theorem dX1_waysToLearn_98 : decode cX1_waysToLearn 98 = .ok (.goto (-92), 3) := by decide +kernel
theorem dX1_waysToLearn_101 : decode cX1_waysToLearn 101 = .ok (.lload 5, 2) := by decide +kernel
theorem dX1_waysToLearn_103 : decode cX1_waysToLearn 103 = .ok (.lreturn, 1) := by decide +kernel
theorem dX1_longestStill_0 : decode cX1_longestStill 0 = .ok (.iconst 0, 1) := by decide +kernel
theorem dX1_longestStill_1 : decode cX1_longestStill 1 = .ok (.istore_n 1, 1) := by decide +kernel
theorem dX1_longestStill_2 : decode cX1_longestStill 2 = .ok (.iconst 0, 1) := by decide +kernel
theorem dX1_longestStill_3 : decode cX1_longestStill 3 = .ok (.istore_n 2, 1) := by decide +kernel
theorem dX1_longestStill_4 : decode cX1_longestStill 4 = .ok (.aload_n 0, 1) := by decide +kernel
theorem dX1_longestStill_5 : decode cX1_longestStill 5 = .ok (.invokevirtual 32, 3) := by decide +kernel
theorem dX1_longestStill_8 : decode cX1_longestStill 8 = .ok (.invokevirtual 135, 3) := by decide +kernel
theorem dX1_longestStill_11 : decode cX1_longestStill 11 = .ok (.istore_n 3, 1) := by decide +kernel
theorem dX1_longestStill_12 : decode cX1_longestStill 12 = .ok (.iconst 0, 1) := by decide +kernel
theorem dX1_longestStill_13 : decode cX1_longestStill 13 = .ok (.istore 4, 2) := by decide +kernel
theorem dX1_longestStill_15 : decode cX1_longestStill 15 = .ok (.iload 4, 2) := by decide +kernel
theorem dX1_longestStill_17 : decode cX1_longestStill 17 = .ok (.bipush 60, 2) := by decide +kernel
theorem dX1_longestStill_19 : decode cX1_longestStill 19 = .ok (.if_icmp .ge 49, 3) := by decide +kernel
theorem dX1_longestStill_22 : decode cX1_longestStill 22 = .ok (.aload_n 0, 1) := by decide +kernel
theorem dX1_longestStill_23 : decode cX1_longestStill 23 = .ok (.getfield 12, 3) := by decide +kernel
theorem dX1_longestStill_26 : decode cX1_longestStill 26 = .ok (.iconst 1, 1) := by decide +kernel
theorem dX1_longestStill_27 : decode cX1_longestStill 27 = .ok (.invokevirtual 36, 3) := by decide +kernel
theorem dX1_longestStill_30 : decode cX1_longestStill 30 = .ok (.aload_n 0, 1) := by decide +kernel
theorem dX1_longestStill_31 : decode cX1_longestStill 31 = .ok (.getfield 12, 3) := by decide +kernel
theorem dX1_longestStill_34 : decode cX1_longestStill 34 = .ok (.invokevirtual 135, 3) := by decide +kernel
theorem dX1_longestStill_37 : decode cX1_longestStill 37 = .ok (.istore 5, 2) := by decide +kernel
theorem dX1_longestStill_39 : decode cX1_longestStill 39 = .ok (.iload 5, 2) := by decide +kernel
theorem dX1_longestStill_41 : decode cX1_longestStill 41 = .ok (.iload_n 3, 1) := by decide +kernel
theorem dX1_longestStill_42 : decode cX1_longestStill 42 = .ok (.if_icmp .ne 9, 3) := by decide +kernel
theorem dX1_longestStill_45 : decode cX1_longestStill 45 = .ok (.iload_n 2, 1) := by decide +kernel
theorem dX1_longestStill_46 : decode cX1_longestStill 46 = .ok (.iconst 1, 1) := by decide +kernel
theorem dX1_longestStill_47 : decode cX1_longestStill 47 = .ok (.iadd, 1) := by decide +kernel
theorem dX1_longestStill_48 : decode cX1_longestStill 48 = .ok (.goto 4, 3) := by decide +kernel
theorem dX1_longestStill_51 : decode cX1_longestStill 51 = .ok (.iconst 0, 1) := by decide +kernel
theorem dX1_longestStill_52 : decode cX1_longestStill 52 = .ok (.istore_n 2, 1) := by decide +kernel
theorem dX1_longestStill_53 : decode cX1_longestStill 53 = .ok (.iload_n 1, 1) := by decide +kernel
theorem dX1_longestStill_54 : decode cX1_longestStill 54 = .ok (.iload_n 2, 1) := by decide +kernel
theorem dX1_longestStill_55 : decode cX1_longestStill 55 = .ok (.invokestatic 138, 3) := by decide +kernel
theorem dX1_longestStill_58 : decode cX1_longestStill 58 = .ok (.istore_n 1, 1) := by decide +kernel
theorem dX1_longestStill_59 : decode cX1_longestStill 59 = .ok (.iload 5, 2) := by decide +kernel
theorem dX1_longestStill_61 : decode cX1_longestStill 61 = .ok (.istore_n 3, 1) := by decide +kernel
theorem dX1_longestStill_62 : decode cX1_longestStill 62 = .ok (.iinc 4 1, 3) := by decide +kernel
theorem dX1_longestStill_65 : decode cX1_longestStill 65 = .ok (.goto (-50), 3) := by decide +kernel
theorem dX1_longestStill_68 : decode cX1_longestStill 68 = .ok (.iload_n 1, 1) := by decide +kernel
theorem dX1_longestStill_69 : decode cX1_longestStill 69 = .ok (.ireturn, 1) := by decide +kernel
theorem dX1_playGames_0 : decode cX1_playGames 0 = .ok (.iload_n 2, 1) := by decide +kernel
theorem dX1_playGames_1 : decode cX1_playGames 1 = .ok (.istore 4, 2) := by decide +kernel
theorem dX1_playGames_3 : decode cX1_playGames 3 = .ok (.iconst 0, 1) := by decide +kernel
theorem dX1_playGames_4 : decode cX1_playGames 4 = .ok (.istore 5, 2) := by decide +kernel
theorem dX1_playGames_6 : decode cX1_playGames 6 = .ok (.iconst 0, 1) := by decide +kernel
theorem dX1_playGames_7 : decode cX1_playGames 7 = .ok (.istore 6, 2) := by decide +kernel
theorem dX1_playGames_9 : decode cX1_playGames 9 = .ok (.iload 6, 2) := by decide +kernel
theorem dX1_playGames_11 : decode cX1_playGames 11 = .ok (.iload_n 1, 1) := by decide +kernel
theorem dX1_playGames_12 : decode cX1_playGames 12 = .ok (.if_icmp .ge 144, 3) := by decide +kernel
theorem dX1_playGames_15 : decode cX1_playGames 15 = .ok (.aload_n 0, 1) := by decide +kernel
theorem dX1_playGames_16 : decode cX1_playGames 16 = .ok (.invokevirtual 32, 3) := by decide +kernel
theorem dX1_playGames_19 : decode cX1_playGames 19 = .ok (.pop, 1) := by decide +kernel
theorem dX1_playGames_20 : decode cX1_playGames 20 = .ok (.iconst 0, 1) := by decide +kernel
theorem dX1_playGames_21 : decode cX1_playGames 21 = .ok (.istore 7, 2) := by decide +kernel
theorem dX1_playGames_23 : decode cX1_playGames 23 = .ok (.iload 7, 2) := by decide +kernel
theorem dX1_playGames_25 : decode cX1_playGames 25 = .ok (.bipush 10, 2) := by decide +kernel
theorem dX1_playGames_27 : decode cX1_playGames 27 = .ok (.if_icmp .ge 66, 3) := by decide +kernel
theorem dX1_playGames_30 : decode cX1_playGames 30 = .ok (.aload_n 0, 1) := by decide +kernel
theorem dX1_playGames_31 : decode cX1_playGames 31 = .ok (.getfield 25, 3) := by decide +kernel
theorem dX1_playGames_34 : decode cX1_playGames 34 = .ok (.getfield 40, 3) := by decide +kernel
theorem dX1_playGames_37 : decode cX1_playGames 37 = .ok (.ifCond .le 56, 3) := by decide +kernel
theorem dX1_playGames_40 : decode cX1_playGames 40 = .ok (.iload 4, 2) := by decide +kernel
theorem dX1_playGames_42 : decode cX1_playGames 42 = .ok (.invokestatic 143, 3) := by decide +kernel
theorem dX1_playGames_45 : decode cX1_playGames 45 = .ok (.istore 4, 2) := by decide +kernel
theorem dX1_playGames_47 : decode cX1_playGames 47 = .ok (.aload_n 0, 1) := by decide +kernel
theorem dX1_playGames_48 : decode cX1_playGames 48 = .ok (.getfield 25, 3) := by decide +kernel
theorem dX1_playGames_51 : decode cX1_playGames 51 = .ok (.getfield 40, 3) := by decide +kernel
theorem dX1_playGames_54 : decode cX1_playGames 54 = .ok (.iload 4, 2) := by decide +kernel
theorem dX1_playGames_56 : decode cX1_playGames 56 = .ok (.invokestatic 146, 3) := by decide +kernel
theorem dX1_playGames_59 : decode cX1_playGames 59 = .ok (.istore 8, 2) := by decide +kernel
theorem dX1_playGames_61 : decode cX1_playGames 61 = .ok (.iload 4, 2) := by decide +kernel
theorem dX1_playGames_63 : decode cX1_playGames 63 = .ok (.invokestatic 143, 3) := by decide +kernel
theorem dX1_playGames_66 : decode cX1_playGames 66 = .ok (.istore 4, 2) := by decide +kernel
theorem dX1_playGames_68 : decode cX1_playGames 68 = .ok (.aload_n 0, 1) := by decide +kernel
theorem dX1_playGames_69 : decode cX1_playGames 69 = .ok (.getfield 12, 3) := by decide +kernel
theorem dX1_playGames_72 : decode cX1_playGames 72 = .ok (.iload 8, 2) := by decide +kernel
theorem dX1_playGames_74 : decode cX1_playGames 74 = .ok (.bipush 40, 2) := by decide +kernel
theorem dX1_playGames_76 : decode cX1_playGames 76 = .ok (.iload 4, 2) := by decide +kernel
theorem dX1_playGames_78 : decode cX1_playGames 78 = .ok (.invokestatic 146, 3) := by decide +kernel
theorem dX1_playGames_81 : decode cX1_playGames 81 = .ok (.invokestatic 66, 3) := by decide +kernel
theorem dX1_playGames_84 : decode cX1_playGames 84 = .ok (.invokevirtual 71, 3) := by decide +kernel
theorem dX1_playGames_87 : decode cX1_playGames 87 = .ok (.iinc 7 1, 3) := by decide +kernel
theorem dX1_playGames_90 : decode cX1_playGames 90 = .ok (.goto (-67), 3) := by decide +kernel
theorem dX1_playGames_93 : decode cX1_playGames 93 = .ok (.aload_n 0, 1) := by decide +kernel
theorem dX1_playGames_94 : decode cX1_playGames 94 = .ok (.getfield 12, 3) := by decide +kernel
theorem dX1_playGames_97 : decode cX1_playGames 97 = .ok (.bipush 12, 2) := by decide +kernel
theorem dX1_playGames_99 : decode cX1_playGames 99 = .ok (.invokevirtual 36, 3) := by decide +kernel
theorem dX1_playGames_102 : decode cX1_playGames 102 = .ok (.iload 5, 2) := by decide +kernel
theorem dX1_playGames_104 : decode cX1_playGames 104 = .ok (.iload_n 3, 1) := by decide +kernel
theorem dX1_playGames_105 : decode cX1_playGames 105 = .ok (.ifCond .ne 27, 3) := by decide +kernel
theorem dX1_playGames_108 : decode cX1_playGames 108 = .ok (.aload_n 0, 1) := by decide +kernel
theorem dX1_playGames_109 : decode cX1_playGames 109 = .ok (.getfield 12, 3) := by decide +kernel
theorem dX1_playGames_112 : decode cX1_playGames 112 = .ok (.getfield 107, 3) := by decide +kernel
theorem dX1_playGames_115 : decode cX1_playGames 115 = .ok (.invokestatic 56, 3) := by decide +kernel
theorem dX1_playGames_118 : decode cX1_playGames 118 = .ok (.aload_n 0, 1) := by decide +kernel
theorem dX1_playGames_119 : decode cX1_playGames 119 = .ok (.getfield 25, 3) := by decide +kernel
theorem dX1_playGames_122 : decode cX1_playGames 122 = .ok (.getfield 107, 3) := by decide +kernel
theorem dX1_playGames_125 : decode cX1_playGames 125 = .ok (.invokestatic 56, 3) := by decide +kernel
theorem dX1_playGames_128 : decode cX1_playGames 128 = .ok (.isub, 1) := by decide +kernel
theorem dX1_playGames_129 : decode cX1_playGames 129 = .ok (.goto 18, 3) := by decide +kernel
theorem dX1_playGames_132 : decode cX1_playGames 132 = .ok (.aload_n 0, 1) := by decide +kernel
theorem dX1_playGames_133 : decode cX1_playGames 133 = .ok (.getfield 12, 3) := by decide +kernel
theorem dX1_playGames_136 : decode cX1_playGames 136 = .ok (.getfield 149, 3) := by decide +kernel
theorem dX1_playGames_139 : decode cX1_playGames 139 = .ok (.aload_n 0, 1) := by decide +kernel
theorem dX1_playGames_140 : decode cX1_playGames 140 = .ok (.getfield 25, 3) := by decide +kernel
theorem dX1_playGames_143 : decode cX1_playGames 143 = .ok (.getfield 149, 3) := by decide +kernel
theorem dX1_playGames_146 : decode cX1_playGames 146 = .ok (.isub, 1) := by decide +kernel
theorem dX1_playGames_147 : decode cX1_playGames 147 = .ok (.iadd, 1) := by decide +kernel
theorem dX1_playGames_148 : decode cX1_playGames 148 = .ok (.istore 5, 2) := by decide +kernel
theorem dX1_playGames_150 : decode cX1_playGames 150 = .ok (.iinc 6 1, 3) := by decide +kernel
theorem dX1_playGames_153 : decode cX1_playGames 153 = .ok (.goto (-144), 3) := by decide +kernel
theorem dX1_playGames_156 : decode cX1_playGames 156 = .ok (.iload 5, 2) := by decide +kernel
theorem dX1_playGames_158 : decode cX1_playGames 158 = .ok (.ireturn, 1) := by decide +kernel
theorem dX1_nextSeed_0 : decode cX1_nextSeed 0 = .ok (.iload_n 0, 1) := by decide +kernel
theorem dX1_nextSeed_1 : decode cX1_nextSeed 1 = .ok (.ldc 152, 2) := by decide +kernel
theorem dX1_nextSeed_3 : decode cX1_nextSeed 3 = .ok (.imul, 1) := by decide +kernel
theorem dX1_nextSeed_4 : decode cX1_nextSeed 4 = .ok (.sipush 12345, 3) := by decide +kernel
theorem dX1_nextSeed_7 : decode cX1_nextSeed 7 = .ok (.iadd, 1) := by decide +kernel
theorem dX1_nextSeed_8 : decode cX1_nextSeed 8 = .ok (.ireturn, 1) := by decide +kernel
theorem dX1_drawBelow_0 : decode cX1_drawBelow 0 = .ok (.iload_n 0, 1) := by decide +kernel
theorem dX1_drawBelow_1 : decode cX1_drawBelow 1 = .ok (.ifCond .le 15, 3) := by decide +kernel
theorem dX1_drawBelow_4 : decode cX1_drawBelow 4 = .ok (.iload_n 1, 1) := by decide +kernel
theorem dX1_drawBelow_5 : decode cX1_drawBelow 5 = .ok (.ldc 153, 2) := by decide +kernel
theorem dX1_drawBelow_7 : decode cX1_drawBelow 7 = .ok (.iand, 1) := by decide +kernel
theorem dX1_drawBelow_8 : decode cX1_drawBelow 8 = .ok (.ldc 154, 2) := by decide +kernel
theorem dX1_drawBelow_10 : decode cX1_drawBelow 10 = .ok (.idiv, 1) := by decide +kernel
theorem dX1_drawBelow_11 : decode cX1_drawBelow 11 = .ok (.iload_n 0, 1) := by decide +kernel
theorem dX1_drawBelow_12 : decode cX1_drawBelow 12 = .ok (.irem, 1) := by decide +kernel
theorem dX1_drawBelow_13 : decode cX1_drawBelow 13 = .ok (.goto 4, 3) := by decide +kernel
theorem dX1_drawBelow_16 : decode cX1_drawBelow 16 = .ok (.iconst 0, 1) := by decide +kernel
theorem dX1_drawBelow_17 : decode cX1_drawBelow 17 = .ok (.ireturn, 1) := by decide +kernel
theorem dX2_power_0 : decode cX2_power 0 = .ok (.lconst 1, 1) := by decide +kernel
theorem dX2_power_1 : decode cX2_power 1 = .ok (.lstore_n 2, 1) := by decide +kernel
theorem dX2_power_2 : decode cX2_power 2 = .ok (.iconst 0, 1) := by decide +kernel
theorem dX2_power_3 : decode cX2_power 3 = .ok (.istore 4, 2) := by decide +kernel
theorem dX2_power_5 : decode cX2_power 5 = .ok (.iload 4, 2) := by decide +kernel
theorem dX2_power_7 : decode cX2_power 7 = .ok (.iload_n 1, 1) := by decide +kernel
theorem dX2_power_8 : decode cX2_power 8 = .ok (.if_icmp .ge 14, 3) := by decide +kernel
theorem dX2_power_11 : decode cX2_power 11 = .ok (.lload_n 2, 1) := by decide +kernel
theorem dX2_power_12 : decode cX2_power 12 = .ok (.iload_n 0, 1) := by decide +kernel
theorem dX2_power_13 : decode cX2_power 13 = .ok (.i2l, 1) := by decide +kernel
theorem dX2_power_14 : decode cX2_power 14 = .ok (.lmul, 1) := by decide +kernel
theorem dX2_power_15 : decode cX2_power 15 = .ok (.lstore_n 2, 1) := by decide +kernel
theorem dX2_power_16 : decode cX2_power 16 = .ok (.iinc 4 1, 3) := by decide +kernel
theorem dX2_power_19 : decode cX2_power 19 = .ok (.goto (-14), 3) := by decide +kernel
theorem dX2_power_22 : decode cX2_power 22 = .ok (.lload_n 2, 1) := by decide +kernel
theorem dX2_power_23 : decode cX2_power 23 = .ok (.lreturn, 1) := by decide +kernel
theorem dX2_partOf_0 : decode cX2_partOf 0 = .ok (.lload_n 0, 1) := by decide +kernel
theorem dX2_partOf_1 : decode cX2_partOf 1 = .ok (.lconst 0, 1) := by decide +kernel
theorem dX2_partOf_2 : decode cX2_partOf 2 = .ok (.lcmp, 1) := by decide +kernel
theorem dX2_partOf_3 : decode cX2_partOf 3 = .ok (.ifCond .eq 9, 3) := by decide +kernel
theorem dX2_partOf_6 : decode cX2_partOf 6 = .ok (.lload_n 2, 1) := by decide +kernel
theorem dX2_partOf_7 : decode cX2_partOf 7 = .ok (.lconst 0, 1) := by decide +kernel
theorem dX2_partOf_8 : decode cX2_partOf 8 = .ok (.lcmp, 1) := by decide +kernel
theorem dX2_partOf_9 : decode cX2_partOf 9 = .ok (.ifCond .ne 14, 3) := by decide +kernel
theorem dX2_partOf_12 : decode cX2_partOf 12 = .ok (.iload 4, 2) := by decide +kernel
theorem dX2_partOf_14 : decode cX2_partOf 14 = .ok (.ifCond .ne 7, 3) := by decide +kernel
theorem dX2_partOf_17 : decode cX2_partOf 17 = .ok (.lconst 0, 1) := by decide +kernel
theorem dX2_partOf_18 : decode cX2_partOf 18 = .ok (.goto 4, 3) := by decide +kernel
theorem dX2_partOf_21 : decode cX2_partOf 21 = .ok (.lconst 1, 1) := by decide +kernel
theorem dX2_partOf_22 : decode cX2_partOf 22 = .ok (.lreturn, 1) := by decide +kernel
theorem dX2_partOf_23 : decode cX2_partOf 23 = .ok (.lload_n 0, 1) := by decide +kernel
theorem dX2_partOf_24 : decode cX2_partOf 24 = .ok (.lload_n 2, 1) := by decide +kernel
theorem dX2_partOf_25 : decode cX2_partOf 25 = .ok (.invokestatic 7, 3) := by decide +kernel
theorem dX2_partOf_28 : decode cX2_partOf 28 = .ok (.lstore 5, 2) := by decide +kernel
theorem dX2_partOf_30 : decode cX2_partOf 30 = .ok (.iload 4, 2) := by decide +kernel
theorem dX2_partOf_32 : decode cX2_partOf 32 = .ok (.ifCond .ne 7, 3) := by decide +kernel
theorem dX2_partOf_35 : decode cX2_partOf 35 = .ok (.lload_n 0, 1) := by decide +kernel
theorem dX2_partOf_36 : decode cX2_partOf 36 = .ok (.goto 4, 3) := by decide +kernel
theorem dX2_partOf_39 : decode cX2_partOf 39 = .ok (.lload_n 2, 1) := by decide +kernel
theorem dX2_partOf_40 : decode cX2_partOf 40 = .ok (.lstore 7, 2) := by decide +kernel
theorem dX2_partOf_42 : decode cX2_partOf 42 = .ok (.lload 5, 2) := by decide +kernel
theorem dX2_partOf_44 : decode cX2_partOf 44 = .ok (.lconst 0, 1) := by decide +kernel
theorem dX2_partOf_45 : decode cX2_partOf 45 = .ok (.lcmp, 1) := by decide +kernel
theorem dX2_partOf_46 : decode cX2_partOf 46 = .ok (.ifCond .ne 8, 3) := by decide +kernel
theorem dX2_partOf_49 : decode cX2_partOf 49 = .ok (.lload 7, 2) := by decide +kernel
theorem dX2_partOf_51 : decode cX2_partOf 51 = .ok (.goto 8, 3) := by decide +kernel
theorem dX2_partOf_54 : decode cX2_partOf 54 = .ok (.lload 7, 2) := by decide +kernel
theorem dX2_partOf_56 : decode cX2_partOf 56 = .ok (.lload 5, 2) := by decide +kernel
theorem dX2_partOf_58 : decode cX2_partOf 58 = .ok (.ldiv, 1) := by decide +kernel
theorem dX2_partOf_59 : decode cX2_partOf 59 = .ok (.lreturn, 1) := by decide +kernel
theorem dX2_commonDivisor_0 : decode cX2_commonDivisor 0 = .ok (.lload_n 0, 1) := by decide +kernel
theorem dX2_commonDivisor_1 : decode cX2_commonDivisor 1 = .ok (.lstore 4, 2) := by decide +kernel
theorem dX2_commonDivisor_3 : decode cX2_commonDivisor 3 = .ok (.lload_n 2, 1) := by decide +kernel
theorem dX2_commonDivisor_4 : decode cX2_commonDivisor 4 = .ok (.lstore 6, 2) := by decide +kernel
theorem dX2_commonDivisor_6 : decode cX2_commonDivisor 6 = .ok (.iconst 0, 1) := by decide +kernel
theorem dX2_commonDivisor_7 : decode cX2_commonDivisor 7 = .ok (.istore 8, 2) := by decide +kernel
theorem dX2_commonDivisor_9 : decode cX2_commonDivisor 9 = .ok (.iload 8, 2) := by decide +kernel
theorem dX2_commonDivisor_11 : decode cX2_commonDivisor 11 = .ok (.sipush 1000, 3) := by decide +kernel
theorem dX2_commonDivisor_14 : decode cX2_commonDivisor 14 = .ok (.if_icmp .ge 31, 3) := by decide +kernel
theorem dX2_commonDivisor_17 : decode cX2_commonDivisor 17 = .ok (.lload 6, 2) := by decide +kernel
theorem dX2_commonDivisor_19 : decode cX2_commonDivisor 19 = .ok (.lconst 0, 1) := by decide +kernel
theorem dX2_commonDivisor_20 : decode cX2_commonDivisor 20 = .ok (.lcmp, 1) := by decide +kernel
theorem dX2_commonDivisor_21 : decode cX2_commonDivisor 21 = .ok (.ifCond .eq 24, 3) := by decide +kernel
theorem dX2_commonDivisor_24 : decode cX2_commonDivisor 24 = .ok (.lload 4, 2) := by decide +kernel
theorem dX2_commonDivisor_26 : decode cX2_commonDivisor 26 = .ok (.lload 6, 2) := by decide +kernel
theorem dX2_commonDivisor_28 : decode cX2_commonDivisor 28 = .ok (.lrem, 1) := by decide +kernel
theorem dX2_commonDivisor_29 : decode cX2_commonDivisor 29 = .ok (.lstore 9, 2) := by decide +kernel
theorem dX2_commonDivisor_31 : decode cX2_commonDivisor 31 = .ok (.lload 6, 2) := by decide +kernel
theorem dX2_commonDivisor_33 : decode cX2_commonDivisor 33 = .ok (.lstore 4, 2) := by decide +kernel
theorem dX2_commonDivisor_35 : decode cX2_commonDivisor 35 = .ok (.lload 9, 2) := by decide +kernel
theorem dX2_commonDivisor_37 : decode cX2_commonDivisor 37 = .ok (.lstore 6, 2) := by decide +kernel
theorem dX2_commonDivisor_39 : decode cX2_commonDivisor 39 = .ok (.iinc 8 1, 3) := by decide +kernel
theorem dX2_commonDivisor_42 : decode cX2_commonDivisor 42 = .ok (.goto (-33), 3) := by decide +kernel
theorem dX2_commonDivisor_45 : decode cX2_commonDivisor 45 = .ok (.lload 4, 2) := by decide +kernel
theorem dX2_commonDivisor_47 : decode cX2_commonDivisor 47 = .ok (.lreturn, 1) := by decide +kernel
theorem dX3_isOne_0 : decode cX3_isOne 0 = .ok (.iload_n 0, 1) := by decide +kernel
theorem dX3_isOne_1 : decode cX3_isOne 1 = .ok (.ifCond .lt 13, 3) := by decide +kernel
theorem dX3_isOne_4 : decode cX3_isOne 4 = .ok (.iload_n 0, 1) := by decide +kernel
theorem dX3_isOne_5 : decode cX3_isOne 5 = .ok (.bipush 8, 2) := by decide +kernel
theorem dX3_isOne_7 : decode cX3_isOne 7 = .ok (.if_icmp .ge 7, 3) := by decide +kernel
theorem dX3_isOne_10 : decode cX3_isOne 10 = .ok (.iconst 1, 1) := by decide +kernel
theorem dX3_isOne_11 : decode cX3_isOne 11 = .ok (.goto 4, 3) := by decide +kernel
theorem dX3_isOne_14 : decode cX3_isOne 14 = .ok (.iconst 0, 1) := by decide +kernel
theorem dX3_isOne_15 : decode cX3_isOne 15 = .ok (.ireturn, 1) := by decide +kernel
theorem dX3_leadOf_0 : decode cX3_leadOf 0 = .ok (.iload_n 0, 1) := by decide +kernel
theorem dX3_leadOf_1 : decode cX3_leadOf 1 = .ok (.tableswitch 123 0 7 #[47, 59, 64, 69, 75, 99, 106, 113], 47) := by decide +kernel
theorem dX3_leadOf_48 : decode cX3_leadOf 48 = .ok (.iload_n 2, 1) := by decide +kernel
theorem dX3_leadOf_49 : decode cX3_leadOf 49 = .ok (.iconst 2, 1) := by decide +kernel
theorem dX3_leadOf_50 : decode cX3_leadOf 50 = .ok (.irem, 1) := by decide +kernel
theorem dX3_leadOf_51 : decode cX3_leadOf 51 = .ok (.ifCond .ne 7, 3) := by decide +kernel
theorem dX3_leadOf_54 : decode cX3_leadOf 54 = .ok (.iconst 0, 1) := by decide +kernel
theorem dX3_leadOf_55 : decode cX3_leadOf 55 = .ok (.goto 4, 3) := by decide +kernel
theorem dX3_leadOf_58 : decode cX3_leadOf 58 = .ok (.iload_n 1, 1) := by decide +kernel
theorem dX3_leadOf_59 : decode cX3_leadOf 59 = .ok (.ireturn, 1) := by decide +kernel
theorem dX3_leadOf_60 : decode cX3_leadOf 60 = .ok (.iload_n 1, 1) := by decide +kernel
theorem dX3_leadOf_61 : decode cX3_leadOf 61 = .ok (.invokestatic 9, 3) := by decide +kernel
theorem dX3_leadOf_64 : decode cX3_leadOf 64 = .ok (.ireturn, 1) := by decide +kernel
theorem dX3_leadOf_65 : decode cX3_leadOf 65 = .ok (.iload_n 2, 1) := by decide +kernel
theorem dX3_leadOf_66 : decode cX3_leadOf 66 = .ok (.invokestatic 13, 3) := by decide +kernel
theorem dX3_leadOf_69 : decode cX3_leadOf 69 = .ok (.ireturn, 1) := by decide +kernel
theorem dX3_leadOf_70 : decode cX3_leadOf 70 = .ok (.iload_n 1, 1) := by decide +kernel
theorem dX3_leadOf_71 : decode cX3_leadOf 71 = .ok (.iload_n 2, 1) := by decide +kernel
theorem dX3_leadOf_72 : decode cX3_leadOf 72 = .ok (.invokestatic 16, 3) := by decide +kernel
theorem dX3_leadOf_75 : decode cX3_leadOf 75 = .ok (.ireturn, 1) := by decide +kernel
theorem dX3_leadOf_76 : decode cX3_leadOf 76 = .ok (.iload_n 2, 1) := by decide +kernel
theorem dX3_leadOf_77 : decode cX3_leadOf 77 = .ok (.iconst 2, 1) := by decide +kernel
theorem dX3_leadOf_78 : decode cX3_leadOf 78 = .ok (.irem, 1) := by decide +kernel
theorem dX3_leadOf_79 : decode cX3_leadOf 79 = .ok (.ifCond .ne 11, 3) := by decide +kernel
theorem dX3_leadOf_82 : decode cX3_leadOf 82 = .ok (.iload_n 1, 1) := by decide +kernel
theorem dX3_leadOf_83 : decode cX3_leadOf 83 = .ok (.iload_n 2, 1) := by decide +kernel
theorem dX3_leadOf_84 : decode cX3_leadOf 84 = .ok (.invokestatic 16, 3) := by decide +kernel
theorem dX3_leadOf_87 : decode cX3_leadOf 87 = .ok (.goto 12, 3) := by decide +kernel
theorem dX3_leadOf_90 : decode cX3_leadOf 90 = .ok (.iconst 5, 1) := by decide +kernel
theorem dX3_leadOf_91 : decode cX3_leadOf 91 = .ok (.iload_n 1, 1) := by decide +kernel
theorem dX3_leadOf_92 : decode cX3_leadOf 92 = .ok (.iload_n 2, 1) := by decide +kernel
theorem dX3_leadOf_93 : decode cX3_leadOf 93 = .ok (.invokestatic 16, 3) := by decide +kernel
theorem dX3_leadOf_96 : decode cX3_leadOf 96 = .ok (.invokestatic 20, 3) := by decide +kernel
theorem dX3_leadOf_99 : decode cX3_leadOf 99 = .ok (.ireturn, 1) := by decide +kernel
theorem dX3_leadOf_100 : decode cX3_leadOf 100 = .ok (.iload_n 1, 1) := by decide +kernel
theorem dX3_leadOf_101 : decode cX3_leadOf 101 = .ok (.invokestatic 9, 3) := by decide +kernel
theorem dX3_leadOf_104 : decode cX3_leadOf 104 = .ok (.iconst 2, 1) := by decide +kernel
theorem dX3_leadOf_105 : decode cX3_leadOf 105 = .ok (.iadd, 1) := by decide +kernel
theorem dX3_leadOf_106 : decode cX3_leadOf 106 = .ok (.ireturn, 1) := by decide +kernel
theorem dX3_leadOf_107 : decode cX3_leadOf 107 = .ok (.iload_n 2, 1) := by decide +kernel
theorem dX3_leadOf_108 : decode cX3_leadOf 108 = .ok (.invokestatic 13, 3) := by decide +kernel
theorem dX3_leadOf_111 : decode cX3_leadOf 111 = .ok (.iconst 1, 1) := by decide +kernel
theorem dX3_leadOf_112 : decode cX3_leadOf 112 = .ok (.isub, 1) := by decide +kernel
theorem dX3_leadOf_113 : decode cX3_leadOf 113 = .ok (.ireturn, 1) := by decide +kernel
theorem dX3_leadOf_114 : decode cX3_leadOf 114 = .ok (.bipush 9, 2) := by decide +kernel
theorem dX3_leadOf_116 : decode cX3_leadOf 116 = .ok (.iload_n 2, 1) := by decide +kernel
theorem dX3_leadOf_117 : decode cX3_leadOf 117 = .ok (.invokestatic 13, 3) := by decide +kernel
theorem dX3_leadOf_120 : decode cX3_leadOf 120 = .ok (.iconst 1, 1) := by decide +kernel
theorem dX3_leadOf_121 : decode cX3_leadOf 121 = .ok (.isub, 1) := by decide +kernel
theorem dX3_leadOf_122 : decode cX3_leadOf 122 = .ok (.isub, 1) := by decide +kernel
theorem dX3_leadOf_123 : decode cX3_leadOf 123 = .ok (.ireturn, 1) := by decide +kernel
theorem dX3_leadOf_124 : decode cX3_leadOf 124 = .ok (.iconst 0, 1) := by decide +kernel
theorem dX3_leadOf_125 : decode cX3_leadOf 125 = .ok (.ireturn, 1) := by decide +kernel
theorem dX3_loversLead_0 : decode cX3_loversLead 0 = .ok (.iload_n 0, 1) := by decide +kernel
theorem dX3_loversLead_1 : decode cX3_loversLead 1 = .ok (.iconst 2, 1) := by decide +kernel
theorem dX3_loversLead_2 : decode cX3_loversLead 2 = .ok (.idiv, 1) := by decide +kernel
theorem dX3_loversLead_3 : decode cX3_loversLead 3 = .ok (.iconst 1, 1) := by decide +kernel
theorem dX3_loversLead_4 : decode cX3_loversLead 4 = .ok (.iadd, 1) := by decide +kernel
theorem dX3_loversLead_5 : decode cX3_loversLead 5 = .ok (.ireturn, 1) := by decide +kernel
theorem dX3_soldiersLead_0 : decode cX3_soldiersLead 0 = .ok (.iload_n 0, 1) := by decide +kernel
theorem dX3_soldiersLead_1 : decode cX3_soldiersLead 1 = .ok (.iconst 3, 1) := by decide +kernel
theorem dX3_soldiersLead_2 : decode cX3_soldiersLead 2 = .ok (.irem, 1) := by decide +kernel
theorem dX3_soldiersLead_3 : decode cX3_soldiersLead 3 = .ok (.istore_n 1, 1) := by decide +kernel
theorem dX3_soldiersLead_4 : decode cX3_soldiersLead 4 = .ok (.iload_n 1, 1) := by decide +kernel
theorem dX3_soldiersLead_5 : decode cX3_soldiersLead 5 = .ok (.ifCond .ne 5, 3) := by decide +kernel
theorem dX3_soldiersLead_8 : decode cX3_soldiersLead 8 = .ok (.iconst 4, 1) := by decide +kernel
theorem dX3_soldiersLead_9 : decode cX3_soldiersLead 9 = .ok (.ireturn, 1) := by decide +kernel
theorem dX3_soldiersLead_10 : decode cX3_soldiersLead 10 = .ok (.iload_n 1, 1) := by decide +kernel
theorem dX3_soldiersLead_11 : decode cX3_soldiersLead 11 = .ok (.iconst 1, 1) := by decide +kernel
theorem dX3_soldiersLead_12 : decode cX3_soldiersLead 12 = .ok (.if_icmp .ne 7, 3) := by decide +kernel
theorem dX3_soldiersLead_15 : decode cX3_soldiersLead 15 = .ok (.iconst 1, 1) := by decide +kernel
theorem dX3_soldiersLead_16 : decode cX3_soldiersLead 16 = .ok (.goto 5, 3) := by decide +kernel
theorem dX3_soldiersLead_19 : decode cX3_soldiersLead 19 = .ok (.bipush 7, 2) := by decide +kernel
theorem dX3_soldiersLead_21 : decode cX3_soldiersLead 21 = .ok (.ireturn, 1) := by decide +kernel
theorem dX3_banksLead_0 : decode cX3_banksLead 0 = .ok (.iload_n 0, 1) := by decide +kernel
theorem dX3_banksLead_1 : decode cX3_banksLead 1 = .ok (.iconst 2, 1) := by decide +kernel
theorem dX3_banksLead_2 : decode cX3_banksLead 2 = .ok (.iadd, 1) := by decide +kernel
theorem dX3_banksLead_3 : decode cX3_banksLead 3 = .ok (.istore_n 2, 1) := by decide +kernel
theorem dX3_banksLead_4 : decode cX3_banksLead 4 = .ok (.iload_n 2, 1) := by decide +kernel
theorem dX3_banksLead_5 : decode cX3_banksLead 5 = .ok (.ifCond .le 14, 3) := by decide +kernel
theorem dX3_banksLead_8 : decode cX3_banksLead 8 = .ok (.iload_n 1, 1) := by decide +kernel
theorem dX3_banksLead_9 : decode cX3_banksLead 9 = .ok (.iload_n 2, 1) := by decide +kernel
theorem dX3_banksLead_10 : decode cX3_banksLead 10 = .ok (.irem, 1) := by decide +kernel
theorem dX3_banksLead_11 : decode cX3_banksLead 11 = .ok (.ifCond .ne 8, 3) := by decide +kernel
theorem dX3_banksLead_14 : decode cX3_banksLead 14 = .ok (.bipush 9, 2) := by decide +kernel
theorem dX3_banksLead_16 : decode cX3_banksLead 16 = .ok (.goto 4, 3) := by decide +kernel
theorem dX3_banksLead_19 : decode cX3_banksLead 19 = .ok (.iconst 0, 1) := by decide +kernel
theorem dX3_banksLead_20 : decode cX3_banksLead 20 = .ok (.ireturn, 1) := by decide +kernel
theorem dX3_pressOf_0 : decode cX3_pressOf 0 = .ok (.iload_n 0, 1) := by decide +kernel
theorem dX3_pressOf_1 : decode cX3_pressOf 1 = .ok (.tableswitch 69 0 7 #[47, 49, 54, 56, 58, 60, 67, 67], 47) := by decide +kernel
theorem dX3_pressOf_48 : decode cX3_pressOf 48 = .ok (.iconst 2, 1) := by decide +kernel
theorem dX3_pressOf_49 : decode cX3_pressOf 49 = .ok (.ireturn, 1) := by decide +kernel
theorem dX3_pressOf_50 : decode cX3_pressOf 50 = .ok (.iload_n 1, 1) := by decide +kernel
theorem dX3_pressOf_51 : decode cX3_pressOf 51 = .ok (.invokestatic 25, 3) := by decide +kernel
theorem dX3_pressOf_54 : decode cX3_pressOf 54 = .ok (.ireturn, 1) := by decide +kernel
theorem dX3_pressOf_55 : decode cX3_pressOf 55 = .ok (.iconst 1, 1) := by decide +kernel
theorem dX3_pressOf_56 : decode cX3_pressOf 56 = .ok (.ireturn, 1) := by decide +kernel
theorem dX3_pressOf_57 : decode cX3_pressOf 57 = .ok (.iconst 5, 1) := by decide +kernel
theorem dX3_pressOf_58 : decode cX3_pressOf 58 = .ok (.ireturn, 1) := by decide +kernel
theorem dX3_pressOf_59 : decode cX3_pressOf 59 = .ok (.iconst 0, 1) := by decide +kernel
theorem dX3_pressOf_60 : decode cX3_pressOf 60 = .ok (.ireturn, 1) := by decide +kernel
theorem dX3_pressOf_61 : decode cX3_pressOf 61 = .ok (.iload_n 1, 1) := by decide +kernel
theorem dX3_pressOf_62 : decode cX3_pressOf 62 = .ok (.invokestatic 25, 3) := by decide +kernel
theorem dX3_pressOf_65 : decode cX3_pressOf 65 = .ok (.iconst 3, 1) := by decide +kernel
theorem dX3_pressOf_66 : decode cX3_pressOf 66 = .ok (.isub, 1) := by decide +kernel
theorem dX3_pressOf_67 : decode cX3_pressOf 67 = .ok (.ireturn, 1) := by decide +kernel
theorem dX3_pressOf_68 : decode cX3_pressOf 68 = .ok (.iconst 5, 1) := by decide +kernel
theorem dX3_pressOf_69 : decode cX3_pressOf 69 = .ok (.ireturn, 1) := by decide +kernel
theorem dX3_pressOf_70 : decode cX3_pressOf 70 = .ok (.iconst 0, 1) := by decide +kernel
theorem dX3_pressOf_71 : decode cX3_pressOf 71 = .ok (.ireturn, 1) := by decide +kernel
theorem dX3_loversPress_0 : decode cX3_loversPress 0 = .ok (.iconst 4, 1) := by decide +kernel
theorem dX3_loversPress_1 : decode cX3_loversPress 1 = .ok (.iload_n 0, 1) := by decide +kernel
theorem dX3_loversPress_2 : decode cX3_loversPress 2 = .ok (.iconst 3, 1) := by decide +kernel
theorem dX3_loversPress_3 : decode cX3_loversPress 3 = .ok (.idiv, 1) := by decide +kernel
theorem dX3_loversPress_4 : decode cX3_loversPress 4 = .ok (.iadd, 1) := by decide +kernel
theorem dX3_loversPress_5 : decode cX3_loversPress 5 = .ok (.ireturn, 1) := by decide +kernel
theorem dX3_everyOf_0 : decode cX3_everyOf 0 = .ok (.iload_n 0, 1) := by decide +kernel
theorem dX3_everyOf_1 : decode cX3_everyOf 1 = .ok (.tableswitch 78 0 7 #[47, 49, 51, 56, 58, 60, 62, 69], 47) := by decide +kernel
theorem dX3_everyOf_48 : decode cX3_everyOf 48 = .ok (.iconst 3, 1) := by decide +kernel
theorem dX3_everyOf_49 : decode cX3_everyOf 49 = .ok (.ireturn, 1) := by decide +kernel
theorem dX3_everyOf_50 : decode cX3_everyOf 50 = .ok (.iconst 1, 1) := by decide +kernel
theorem dX3_everyOf_51 : decode cX3_everyOf 51 = .ok (.ireturn, 1) := by decide +kernel
theorem dX3_everyOf_52 : decode cX3_everyOf 52 = .ok (.iload_n 1, 1) := by decide +kernel
theorem dX3_everyOf_53 : decode cX3_everyOf 53 = .ok (.invokestatic 28, 3) := by decide +kernel
theorem dX3_everyOf_56 : decode cX3_everyOf 56 = .ok (.ireturn, 1) := by decide +kernel
theorem dX3_everyOf_57 : decode cX3_everyOf 57 = .ok (.iconst 5, 1) := by decide +kernel
theorem dX3_everyOf_58 : decode cX3_everyOf 58 = .ok (.ireturn, 1) := by decide +kernel
theorem dX3_everyOf_59 : decode cX3_everyOf 59 = .ok (.iconst 3, 1) := by decide +kernel
theorem dX3_everyOf_60 : decode cX3_everyOf 60 = .ok (.ireturn, 1) := by decide +kernel
theorem dX3_everyOf_61 : decode cX3_everyOf 61 = .ok (.iconst 3, 1) := by decide +kernel
theorem dX3_everyOf_62 : decode cX3_everyOf 62 = .ok (.ireturn, 1) := by decide +kernel
theorem dX3_everyOf_63 : decode cX3_everyOf 63 = .ok (.iload_n 1, 1) := by decide +kernel
theorem dX3_everyOf_64 : decode cX3_everyOf 64 = .ok (.invokestatic 28, 3) := by decide +kernel
theorem dX3_everyOf_67 : decode cX3_everyOf 67 = .ok (.iconst 1, 1) := by decide +kernel
theorem dX3_everyOf_68 : decode cX3_everyOf 68 = .ok (.iadd, 1) := by decide +kernel
theorem dX3_everyOf_69 : decode cX3_everyOf 69 = .ok (.ireturn, 1) := by decide +kernel
theorem dX3_everyOf_70 : decode cX3_everyOf 70 = .ok (.iconst 2, 1) := by decide +kernel
theorem dX3_everyOf_71 : decode cX3_everyOf 71 = .ok (.iload_n 1, 1) := by decide +kernel
theorem dX3_everyOf_72 : decode cX3_everyOf 72 = .ok (.invokestatic 28, 3) := by decide +kernel
theorem dX3_everyOf_75 : decode cX3_everyOf 75 = .ok (.iconst 1, 1) := by decide +kernel
theorem dX3_everyOf_76 : decode cX3_everyOf 76 = .ok (.iadd, 1) := by decide +kernel
theorem dX3_everyOf_77 : decode cX3_everyOf 77 = .ok (.imul, 1) := by decide +kernel
theorem dX3_everyOf_78 : decode cX3_everyOf 78 = .ok (.ireturn, 1) := by decide +kernel
theorem dX3_everyOf_79 : decode cX3_everyOf 79 = .ok (.iconst 1, 1) := by decide +kernel
theorem dX3_everyOf_80 : decode cX3_everyOf 80 = .ok (.ireturn, 1) := by decide +kernel
theorem dX3_soldiersEvery_0 : decode cX3_soldiersEvery 0 = .ok (.iload_n 0, 1) := by decide +kernel
theorem dX3_soldiersEvery_1 : decode cX3_soldiersEvery 1 = .ok (.iconst 2, 1) := by decide +kernel
theorem dX3_soldiersEvery_2 : decode cX3_soldiersEvery 2 = .ok (.idiv, 1) := by decide +kernel
theorem dX3_soldiersEvery_3 : decode cX3_soldiersEvery 3 = .ok (.iconst 2, 1) := by decide +kernel
theorem dX3_soldiersEvery_4 : decode cX3_soldiersEvery 4 = .ok (.iadd, 1) := by decide +kernel
theorem dX3_soldiersEvery_5 : decode cX3_soldiersEvery 5 = .ok (.ireturn, 1) := by decide +kernel
theorem dX3_picksOf_0 : decode cX3_picksOf 0 = .ok (.iload_n 0, 1) := by decide +kernel
theorem dX3_picksOf_1 : decode cX3_picksOf 1 = .ok (.tableswitch 47 1 7 #[43, 45, 47, 45, 45, 45, 43], 43) := by decide +kernel
theorem dX3_picksOf_44 : decode cX3_picksOf 44 = .ok (.iconst 3, 1) := by decide +kernel
theorem dX3_picksOf_45 : decode cX3_picksOf 45 = .ok (.ireturn, 1) := by decide +kernel
theorem dX3_picksOf_46 : decode cX3_picksOf 46 = .ok (.iconst 2, 1) := by decide +kernel
theorem dX3_picksOf_47 : decode cX3_picksOf 47 = .ok (.ireturn, 1) := by decide +kernel
theorem dX3_picksOf_48 : decode cX3_picksOf 48 = .ok (.iconst 1, 1) := by decide +kernel
theorem dX3_picksOf_49 : decode cX3_picksOf 49 = .ok (.ireturn, 1) := by decide +kernel
theorem dX3_isBackward_0 : decode cX3_isBackward 0 = .ok (.iload_n 0, 1) := by decide +kernel
theorem dX3_isBackward_1 : decode cX3_isBackward 1 = .ok (.iconst 4, 1) := by decide +kernel
theorem dX3_isBackward_2 : decode cX3_isBackward 2 = .ok (.if_icmp .eq 9, 3) := by decide +kernel
theorem dX3_isBackward_5 : decode cX3_isBackward 5 = .ok (.iload_n 0, 1) := by decide +kernel
theorem dX3_isBackward_6 : decode cX3_isBackward 6 = .ok (.bipush 7, 2) := by decide +kernel
theorem dX3_isBackward_8 : decode cX3_isBackward 8 = .ok (.if_icmp .ne 7, 3) := by decide +kernel
theorem dX3_isBackward_11 : decode cX3_isBackward 11 = .ok (.iconst 1, 1) := by decide +kernel
theorem dX3_isBackward_12 : decode cX3_isBackward 12 = .ok (.goto 4, 3) := by decide +kernel
theorem dX3_isBackward_15 : decode cX3_isBackward 15 = .ok (.iconst 0, 1) := by decide +kernel
theorem dX3_isBackward_16 : decode cX3_isBackward 16 = .ok (.ireturn, 1) := by decide +kernel
theorem dX4_init_0 : decode cX4_init 0 = .ok (.aload_n 0, 1) := by decide +kernel
theorem dX4_init_1 : decode cX4_init 1 = .ok (.invokespecial 1, 3) := by decide +kernel
theorem dX4_init_4 : decode cX4_init 4 = .ok (.aload_n 0, 1) := by decide +kernel
theorem dX4_init_5 : decode cX4_init 5 = .ok (.bipush 8, 2) := by decide +kernel
theorem dX4_init_7 : decode cX4_init 7 = .ok (.anewarray 9, 3) := by decide +kernel
theorem dX4_init_10 : decode cX4_init 10 = .ok (.putfield 11, 3) := by decide +kernel
theorem dX4_init_13 : decode cX4_init 13 = .ok (.return_, 1) := by decide +kernel
theorem dX4_keep_0 : decode cX4_keep 0 = .ok (.aload_n 0, 1) := by decide +kernel
theorem dX4_keep_1 : decode cX4_keep 1 = .ok (.getfield 15, 3) := by decide +kernel
theorem dX4_keep_4 : decode cX4_keep 4 = .ok (.bipush 8, 2) := by decide +kernel
theorem dX4_keep_6 : decode cX4_keep 6 = .ok (.if_icmp .ne 26, 3) := by decide +kernel
theorem dX4_keep_9 : decode cX4_keep 9 = .ok (.aload_n 0, 1) := by decide +kernel
theorem dX4_keep_10 : decode cX4_keep 10 = .ok (.aload_n 0, 1) := by decide +kernel
theorem dX4_keep_11 : decode cX4_keep 11 = .ok (.getfield 19, 3) := by decide +kernel
theorem dX4_keep_14 : decode cX4_keep 14 = .ok (.iconst 1, 1) := by decide +kernel
theorem dX4_keep_15 : decode cX4_keep 15 = .ok (.iadd, 1) := by decide +kernel
theorem dX4_keep_16 : decode cX4_keep 16 = .ok (.bipush 8, 2) := by decide +kernel
theorem dX4_keep_18 : decode cX4_keep 18 = .ok (.irem, 1) := by decide +kernel
theorem dX4_keep_19 : decode cX4_keep 19 = .ok (.putfield 19, 3) := by decide +kernel
theorem dX4_keep_22 : decode cX4_keep 22 = .ok (.aload_n 0, 1) := by decide +kernel
theorem dX4_keep_23 : decode cX4_keep 23 = .ok (.dup, 1) := by decide +kernel
theorem dX4_keep_24 : decode cX4_keep 24 = .ok (.getfield 15, 3) := by decide +kernel
theorem dX4_keep_27 : decode cX4_keep 27 = .ok (.iconst 1, 1) := by decide +kernel
theorem dX4_keep_28 : decode cX4_keep 28 = .ok (.isub, 1) := by decide +kernel
theorem dX4_keep_29 : decode cX4_keep 29 = .ok (.putfield 15, 3) := by decide +kernel
theorem dX4_keep_32 : decode cX4_keep 32 = .ok (.aload_n 0, 1) := by decide +kernel
theorem dX4_keep_33 : decode cX4_keep 33 = .ok (.getfield 19, 3) := by decide +kernel
theorem dX4_keep_36 : decode cX4_keep 36 = .ok (.aload_n 0, 1) := by decide +kernel
theorem dX4_keep_37 : decode cX4_keep 37 = .ok (.getfield 15, 3) := by decide +kernel
theorem dX4_keep_40 : decode cX4_keep 40 = .ok (.iadd, 1) := by decide +kernel
theorem dX4_keep_41 : decode cX4_keep 41 = .ok (.bipush 8, 2) := by decide +kernel
theorem dX4_keep_43 : decode cX4_keep 43 = .ok (.irem, 1) := by decide +kernel
theorem dX4_keep_44 : decode cX4_keep 44 = .ok (.istore_n 2, 1) := by decide +kernel
theorem dX4_keep_45 : decode cX4_keep 45 = .ok (.aload_n 0, 1) := by decide +kernel
theorem dX4_keep_46 : decode cX4_keep 46 = .ok (.getfield 11, 3) := by decide +kernel
theorem dX4_keep_49 : decode cX4_keep 49 = .ok (.iload_n 2, 1) := by decide +kernel
theorem dX4_keep_50 : decode cX4_keep 50 = .ok (.aaload, 1) := by decide +kernel
theorem dX4_keep_51 : decode cX4_keep 51 = .ok (.ifnonnull 16, 3) := by decide +kernel
theorem dX4_keep_54 : decode cX4_keep 54 = .ok (.aload_n 0, 1) := by decide +kernel
theorem dX4_keep_55 : decode cX4_keep 55 = .ok (.getfield 11, 3) := by decide +kernel
theorem dX4_keep_58 : decode cX4_keep 58 = .ok (.iload_n 2, 1) := by decide +kernel
theorem dX4_keep_59 : decode cX4_keep 59 = .ok (.new 9, 3) := by decide +kernel
theorem dX4_keep_62 : decode cX4_keep 62 = .ok (.dup, 1) := by decide +kernel
theorem dX4_keep_63 : decode cX4_keep 63 = .ok (.invokespecial 22, 3) := by decide +kernel
theorem dX4_keep_66 : decode cX4_keep 66 = .ok (.aastore, 1) := by decide +kernel
theorem dX4_keep_67 : decode cX4_keep 67 = .ok (.aload_n 0, 1) := by decide +kernel
theorem dX4_keep_68 : decode cX4_keep 68 = .ok (.getfield 11, 3) := by decide +kernel
theorem dX4_keep_71 : decode cX4_keep 71 = .ok (.iload_n 2, 1) := by decide +kernel
theorem dX4_keep_72 : decode cX4_keep 72 = .ok (.aaload, 1) := by decide +kernel
theorem dX4_keep_73 : decode cX4_keep 73 = .ok (.aload_n 1, 1) := by decide +kernel
theorem dX4_keep_74 : decode cX4_keep 74 = .ok (.invokevirtual 23, 3) := by decide +kernel
theorem dX4_keep_77 : decode cX4_keep 77 = .ok (.aload_n 0, 1) := by decide +kernel
theorem dX4_keep_78 : decode cX4_keep 78 = .ok (.dup, 1) := by decide +kernel
theorem dX4_keep_79 : decode cX4_keep 79 = .ok (.getfield 15, 3) := by decide +kernel
theorem dX4_keep_82 : decode cX4_keep 82 = .ok (.iconst 1, 1) := by decide +kernel
theorem dX4_keep_83 : decode cX4_keep 83 = .ok (.iadd, 1) := by decide +kernel
theorem dX4_keep_84 : decode cX4_keep 84 = .ok (.putfield 15, 3) := by decide +kernel
theorem dX4_keep_87 : decode cX4_keep 87 = .ok (.return_, 1) := by decide +kernel
theorem dX4_takeBack_0 : decode cX4_takeBack 0 = .ok (.aload_n 0, 1) := by decide +kernel
theorem dX4_takeBack_1 : decode cX4_takeBack 1 = .ok (.getfield 15, 3) := by decide +kernel
theorem dX4_takeBack_4 : decode cX4_takeBack 4 = .ok (.ifCond .ne 4, 3) := by decide +kernel
theorem dX4_takeBack_7 : decode cX4_takeBack 7 = .ok (.return_, 1) := by decide +kernel
theorem dX4_takeBack_8 : decode cX4_takeBack 8 = .ok (.aload_n 0, 1) := by decide +kernel
theorem dX4_takeBack_9 : decode cX4_takeBack 9 = .ok (.dup, 1) := by decide +kernel
theorem dX4_takeBack_10 : decode cX4_takeBack 10 = .ok (.getfield 15, 3) := by decide +kernel
theorem dX4_takeBack_13 : decode cX4_takeBack 13 = .ok (.iconst 1, 1) := by decide +kernel
theorem dX4_takeBack_14 : decode cX4_takeBack 14 = .ok (.isub, 1) := by decide +kernel
theorem dX4_takeBack_15 : decode cX4_takeBack 15 = .ok (.putfield 15, 3) := by decide +kernel
theorem dX4_takeBack_18 : decode cX4_takeBack 18 = .ok (.aload_n 0, 1) := by decide +kernel
theorem dX4_takeBack_19 : decode cX4_takeBack 19 = .ok (.getfield 11, 3) := by decide +kernel
theorem dX4_takeBack_22 : decode cX4_takeBack 22 = .ok (.aload_n 0, 1) := by decide +kernel
theorem dX4_takeBack_23 : decode cX4_takeBack 23 = .ok (.getfield 19, 3) := by decide +kernel
theorem dX4_takeBack_26 : decode cX4_takeBack 26 = .ok (.aload_n 0, 1) := by decide +kernel
theorem dX4_takeBack_27 : decode cX4_takeBack 27 = .ok (.getfield 15, 3) := by decide +kernel
theorem dX4_takeBack_30 : decode cX4_takeBack 30 = .ok (.iadd, 1) := by decide +kernel
theorem dX4_takeBack_31 : decode cX4_takeBack 31 = .ok (.bipush 8, 2) := by decide +kernel
theorem dX4_takeBack_33 : decode cX4_takeBack 33 = .ok (.irem, 1) := by decide +kernel
theorem dX4_takeBack_34 : decode cX4_takeBack 34 = .ok (.aaload, 1) := by decide +kernel
theorem dX4_takeBack_35 : decode cX4_takeBack 35 = .ok (.astore_n 2, 1) := by decide +kernel
theorem dX4_takeBack_36 : decode cX4_takeBack 36 = .ok (.aload_n 2, 1) := by decide +kernel
theorem dX4_takeBack_37 : decode cX4_takeBack 37 = .ok (.ifnull 8, 3) := by decide +kernel
theorem dX4_takeBack_40 : decode cX4_takeBack 40 = .ok (.aload_n 1, 1) := by decide +kernel
theorem dX4_takeBack_41 : decode cX4_takeBack 41 = .ok (.aload_n 2, 1) := by decide +kernel
theorem dX4_takeBack_42 : decode cX4_takeBack 42 = .ok (.invokevirtual 23, 3) := by decide +kernel
theorem dX4_takeBack_45 : decode cX4_takeBack 45 = .ok (.return_, 1) := by decide +kernel
theorem dX4_forgetAll_0 : decode cX4_forgetAll 0 = .ok (.aload_n 0, 1) := by decide +kernel
theorem dX4_forgetAll_1 : decode cX4_forgetAll 1 = .ok (.iconst 0, 1) := by decide +kernel
theorem dX4_forgetAll_2 : decode cX4_forgetAll 2 = .ok (.putfield 15, 3) := by decide +kernel
theorem dX4_forgetAll_5 : decode cX4_forgetAll 5 = .ok (.return_, 1) := by decide +kernel
theorem dX5_init_0 : decode cX5_init 0 = .ok (.aload_n 0, 1) := by decide +kernel
theorem dX5_init_1 : decode cX5_init 1 = .ok (.invokespecial 3, 3) := by decide +kernel
theorem dX5_init_4 : decode cX5_init 4 = .ok (.aload_n 0, 1) := by decide +kernel
theorem dX5_init_5 : decode cX5_init 5 = .ok (.bipush 96, 2) := by decide +kernel
theorem dX5_init_7 : decode cX5_init 7 = .ok (.newarray .int, 2) := by decide +kernel
theorem dX5_init_9 : decode cX5_init 9 = .ok (.putfield 11, 3) := by decide +kernel
theorem dX5_init_12 : decode cX5_init 12 = .ok (.return_, 1) := by decide +kernel
theorem dX5_isFull_0 : decode cX5_isFull 0 = .ok (.aload_n 0, 1) := by decide +kernel
theorem dX5_isFull_1 : decode cX5_isFull 1 = .ok (.getfield 15, 3) := by decide +kernel
theorem dX5_isFull_4 : decode cX5_isFull 4 = .ok (.bipush 96, 2) := by decide +kernel
theorem dX5_isFull_6 : decode cX5_isFull 6 = .ok (.if_icmp .lt 7, 3) := by decide +kernel
theorem dX5_isFull_9 : decode cX5_isFull 9 = .ok (.iconst 1, 1) := by decide +kernel
theorem dX5_isFull_10 : decode cX5_isFull 10 = .ok (.goto 4, 3) := by decide +kernel
theorem dX5_isFull_13 : decode cX5_isFull 13 = .ok (.iconst 0, 1) := by decide +kernel
theorem dX5_isFull_14 : decode cX5_isFull 14 = .ok (.ireturn, 1) := by decide +kernel
theorem dX5_take_0 : decode cX5_take 0 = .ok (.aload_n 0, 1) := by decide +kernel
theorem dX5_take_1 : decode cX5_take 1 = .ok (.invokevirtual 19, 3) := by decide +kernel
theorem dX5_take_4 : decode cX5_take 4 = .ok (.ifCond .ne 23, 3) := by decide +kernel
theorem dX5_take_7 : decode cX5_take 7 = .ok (.aload_n 0, 1) := by decide +kernel
theorem dX5_take_8 : decode cX5_take 8 = .ok (.getfield 11, 3) := by decide +kernel
theorem dX5_take_11 : decode cX5_take 11 = .ok (.aload_n 0, 1) := by decide +kernel
theorem dX5_take_12 : decode cX5_take 12 = .ok (.getfield 15, 3) := by decide +kernel
theorem dX5_take_15 : decode cX5_take 15 = .ok (.iload_n 1, 1) := by decide +kernel
theorem dX5_take_16 : decode cX5_take 16 = .ok (.iastore, 1) := by decide +kernel
theorem dX5_take_17 : decode cX5_take 17 = .ok (.aload_n 0, 1) := by decide +kernel
theorem dX5_take_18 : decode cX5_take 18 = .ok (.dup, 1) := by decide +kernel
theorem dX5_take_19 : decode cX5_take 19 = .ok (.getfield 15, 3) := by decide +kernel
theorem dX5_take_22 : decode cX5_take 22 = .ok (.iconst 1, 1) := by decide +kernel
theorem dX5_take_23 : decode cX5_take 23 = .ok (.iadd, 1) := by decide +kernel
theorem dX5_take_24 : decode cX5_take 24 = .ok (.putfield 15, 3) := by decide +kernel
theorem dX5_take_27 : decode cX5_take 27 = .ok (.aload_n 0, 1) := by decide +kernel
theorem dX5_take_28 : decode cX5_take 28 = .ok (.getfield 15, 3) := by decide +kernel
theorem dX5_take_31 : decode cX5_take 31 = .ok (.ireturn, 1) := by decide +kernel
theorem dX5_forget_0 : decode cX5_forget 0 = .ok (.aload_n 0, 1) := by decide +kernel
theorem dX5_forget_1 : decode cX5_forget 1 = .ok (.iconst 0, 1) := by decide +kernel
theorem dX5_forget_2 : decode cX5_forget 2 = .ok (.putfield 15, 3) := by decide +kernel
theorem dX5_forget_5 : decode cX5_forget 5 = .ok (.return_, 1) := by decide +kernel
theorem dX5_readInto_0 : decode cX5_readInto 0 = .ok (.aload_n 0, 1) := by decide +kernel
theorem dX5_readInto_1 : decode cX5_readInto 1 = .ok (.invokevirtual 23, 3) := by decide +kernel
theorem dX5_readInto_4 : decode cX5_readInto 4 = .ok (.istore_n 2, 1) := by decide +kernel
theorem dX5_readInto_5 : decode cX5_readInto 5 = .ok (.iload_n 2, 1) := by decide +kernel
theorem dX5_readInto_6 : decode cX5_readInto 6 = .ok (.ifCond .lt 9, 3) := by decide +kernel
theorem dX5_readInto_9 : decode cX5_readInto 9 = .ok (.sipush (-1000), 3) := by decide +kernel
theorem dX5_readInto_12 : decode cX5_readInto 12 = .ok (.iload_n 2, 1) := by decide +kernel
theorem dX5_readInto_13 : decode cX5_readInto 13 = .ok (.isub, 1) := by decide +kernel
theorem dX5_readInto_14 : decode cX5_readInto 14 = .ok (.ireturn, 1) := by decide +kernel
theorem dX5_readInto_15 : decode cX5_readInto 15 = .ok (.iconst 0, 1) := by decide +kernel
theorem dX5_readInto_16 : decode cX5_readInto 16 = .ok (.istore_n 3, 1) := by decide +kernel
theorem dX5_readInto_17 : decode cX5_readInto 17 = .ok (.iconst 0, 1) := by decide +kernel
theorem dX5_readInto_18 : decode cX5_readInto 18 = .ok (.istore 4, 2) := by decide +kernel
theorem dX5_readInto_20 : decode cX5_readInto 20 = .ok (.iload_n 3, 1) := by decide +kernel
theorem dX5_readInto_21 : decode cX5_readInto 21 = .ok (.aload_n 0, 1) := by decide +kernel
theorem dX5_readInto_22 : decode cX5_readInto 22 = .ok (.getfield 15, 3) := by decide +kernel
theorem dX5_readInto_25 : decode cX5_readInto 25 = .ok (.if_icmp .ge 45, 3) := by decide +kernel
theorem dX5_readInto_28 : decode cX5_readInto 28 = .ok (.iload 4, 2) := by decide +kernel
theorem dX5_readInto_30 : decode cX5_readInto 30 = .ok (.bipush 96, 2) := by decide +kernel
theorem dX5_readInto_32 : decode cX5_readInto 32 = .ok (.if_icmp .ge 38, 3) := by decide +kernel
theorem dX5_readInto_35 : decode cX5_readInto 35 = .ok (.aload_n 0, 1) := by decide +kernel
theorem dX5_readInto_36 : decode cX5_readInto 36 = .ok (.aload_n 1, 1) := by decide +kernel
theorem dX5_readInto_37 : decode cX5_readInto 37 = .ok (.iload_n 3, 1) := by decide +kernel
theorem dX5_readInto_38 : decode cX5_readInto 38 = .ok (.invokevirtual 27, 3) := by decide +kernel
theorem dX5_readInto_41 : decode cX5_readInto 41 = .ok (.ifCond .ne 9, 3) := by decide +kernel
theorem dX5_readInto_44 : decode cX5_readInto 44 = .ok (.sipush (-2000), 3) := by decide +kernel
theorem dX5_readInto_47 : decode cX5_readInto 47 = .ok (.iload_n 3, 1) := by decide +kernel
theorem dX5_readInto_48 : decode cX5_readInto 48 = .ok (.isub, 1) := by decide +kernel
theorem dX5_readInto_49 : decode cX5_readInto 49 = .ok (.ireturn, 1) := by decide +kernel
theorem dX5_readInto_50 : decode cX5_readInto 50 = .ok (.iload_n 3, 1) := by decide +kernel
theorem dX5_readInto_51 : decode cX5_readInto 51 = .ok (.iconst 1, 1) := by decide +kernel
theorem dX5_readInto_52 : decode cX5_readInto 52 = .ok (.aload_n 0, 1) := by decide +kernel
theorem dX5_readInto_53 : decode cX5_readInto 53 = .ok (.getfield 11, 3) := by decide +kernel
theorem dX5_readInto_56 : decode cX5_readInto 56 = .ok (.iload_n 3, 1) := by decide +kernel
theorem dX5_readInto_57 : decode cX5_readInto 57 = .ok (.iaload, 1) := by decide +kernel
theorem dX5_readInto_58 : decode cX5_readInto 58 = .ok (.invokestatic 31, 3) := by decide +kernel
theorem dX5_readInto_61 : decode cX5_readInto 61 = .ok (.iadd, 1) := by decide +kernel
theorem dX5_readInto_62 : decode cX5_readInto 62 = .ok (.iadd, 1) := by decide +kernel
theorem dX5_readInto_63 : decode cX5_readInto 63 = .ok (.istore_n 3, 1) := by decide +kernel
theorem dX5_readInto_64 : decode cX5_readInto 64 = .ok (.iinc 4 1, 3) := by decide +kernel
theorem dX5_readInto_67 : decode cX5_readInto 67 = .ok (.goto (-47), 3) := by decide +kernel
theorem dX5_readInto_70 : decode cX5_readInto 70 = .ok (.iload 4, 2) := by decide +kernel
theorem dX5_readInto_72 : decode cX5_readInto 72 = .ok (.ireturn, 1) := by decide +kernel
theorem dX5_firstWrongLetter_0 : decode cX5_firstWrongLetter 0 = .ok (.iconst 0, 1) := by decide +kernel
theorem dX5_firstWrongLetter_1 : decode cX5_firstWrongLetter 1 = .ok (.istore_n 1, 1) := by decide +kernel
theorem dX5_firstWrongLetter_2 : decode cX5_firstWrongLetter 2 = .ok (.iconst 0, 1) := by decide +kernel
theorem dX5_firstWrongLetter_3 : decode cX5_firstWrongLetter 3 = .ok (.istore_n 2, 1) := by decide +kernel
theorem dX5_firstWrongLetter_4 : decode cX5_firstWrongLetter 4 = .ok (.iload_n 2, 1) := by decide +kernel
theorem dX5_firstWrongLetter_5 : decode cX5_firstWrongLetter 5 = .ok (.aload_n 0, 1) := by decide +kernel
theorem dX5_firstWrongLetter_6 : decode cX5_firstWrongLetter 6 = .ok (.getfield 15, 3) := by decide +kernel
theorem dX5_firstWrongLetter_9 : decode cX5_firstWrongLetter 9 = .ok (.if_icmp .ge 66, 3) := by decide +kernel
theorem dX5_firstWrongLetter_12 : decode cX5_firstWrongLetter 12 = .ok (.aload_n 0, 1) := by decide +kernel
theorem dX5_firstWrongLetter_13 : decode cX5_firstWrongLetter 13 = .ok (.getfield 11, 3) := by decide +kernel
theorem dX5_firstWrongLetter_16 : decode cX5_firstWrongLetter 16 = .ok (.iload_n 2, 1) := by decide +kernel
theorem dX5_firstWrongLetter_17 : decode cX5_firstWrongLetter 17 = .ok (.iaload, 1) := by decide +kernel
theorem dX5_firstWrongLetter_18 : decode cX5_firstWrongLetter 18 = .ok (.istore_n 3, 1) := by decide +kernel
theorem dX5_firstWrongLetter_19 : decode cX5_firstWrongLetter 19 = .ok (.iload_n 1, 1) := by decide +kernel
theorem dX5_firstWrongLetter_20 : decode cX5_firstWrongLetter 20 = .ok (.ifCond .ne 14, 3) := by decide +kernel
theorem dX5_firstWrongLetter_23 : decode cX5_firstWrongLetter 23 = .ok (.iload_n 3, 1) := by decide +kernel
theorem dX5_firstWrongLetter_24 : decode cX5_firstWrongLetter 24 = .ok (.invokestatic 31, 3) := by decide +kernel
theorem dX5_firstWrongLetter_27 : decode cX5_firstWrongLetter 27 = .ok (.istore_n 1, 1) := by decide +kernel
theorem dX5_firstWrongLetter_28 : decode cX5_firstWrongLetter 28 = .ok (.iload_n 1, 1) := by decide +kernel
theorem dX5_firstWrongLetter_29 : decode cX5_firstWrongLetter 29 = .ok (.ifCond .ne 40, 3) := by decide +kernel
theorem dX5_firstWrongLetter_32 : decode cX5_firstWrongLetter 32 = .ok (.iload_n 2, 1) := by decide +kernel
theorem dX5_firstWrongLetter_33 : decode cX5_firstWrongLetter 33 = .ok (.ireturn, 1) := by decide +kernel
theorem dX5_firstWrongLetter_34 : decode cX5_firstWrongLetter 34 = .ok (.iload_n 1, 1) := by decide +kernel
theorem dX5_firstWrongLetter_35 : decode cX5_firstWrongLetter 35 = .ok (.iconst 1, 1) := by decide +kernel
theorem dX5_firstWrongLetter_36 : decode cX5_firstWrongLetter 36 = .ok (.if_icmp .ne 17, 3) := by decide +kernel
theorem dX5_firstWrongLetter_39 : decode cX5_firstWrongLetter 39 = .ok (.iload_n 3, 1) := by decide +kernel
theorem dX5_firstWrongLetter_40 : decode cX5_firstWrongLetter 40 = .ok (.bipush 59, 2) := by decide +kernel
theorem dX5_firstWrongLetter_42 : decode cX5_firstWrongLetter 42 = .ok (.if_icmp .ne 7, 3) := by decide +kernel
theorem dX5_firstWrongLetter_45 : decode cX5_firstWrongLetter 45 = .ok (.iconst 1, 1) := by decide +kernel
theorem dX5_firstWrongLetter_46 : decode cX5_firstWrongLetter 46 = .ok (.goto 11, 3) := by decide +kernel
theorem dX5_firstWrongLetter_49 : decode cX5_firstWrongLetter 49 = .ok (.iconst 0, 1) := by decide +kernel
theorem dX5_firstWrongLetter_50 : decode cX5_firstWrongLetter 50 = .ok (.goto 7, 3) := by decide +kernel
theorem dX5_firstWrongLetter_53 : decode cX5_firstWrongLetter 53 = .ok (.iload_n 3, 1) := by decide +kernel
theorem dX5_firstWrongLetter_54 : decode cX5_firstWrongLetter 54 = .ok (.invokestatic 35, 3) := by decide +kernel
theorem dX5_firstWrongLetter_57 : decode cX5_firstWrongLetter 57 = .ok (.istore 4, 2) := by decide +kernel
theorem dX5_firstWrongLetter_59 : decode cX5_firstWrongLetter 59 = .ok (.iload 4, 2) := by decide +kernel
theorem dX5_firstWrongLetter_61 : decode cX5_firstWrongLetter 61 = .ok (.ifCond .ne 5, 3) := by decide +kernel
theorem dX5_firstWrongLetter_64 : decode cX5_firstWrongLetter 64 = .ok (.iload_n 2, 1) := by decide +kernel
theorem dX5_firstWrongLetter_65 : decode cX5_firstWrongLetter 65 = .ok (.ireturn, 1) := by decide +kernel
theorem dX5_firstWrongLetter_66 : decode cX5_firstWrongLetter 66 = .ok (.iinc 1 (-1), 3) := by decide +kernel
theorem dX5_firstWrongLetter_69 : decode cX5_firstWrongLetter 69 = .ok (.iinc 2 1, 3) := by decide +kernel
theorem dX5_firstWrongLetter_72 : decode cX5_firstWrongLetter 72 = .ok (.goto (-68), 3) := by decide +kernel
theorem dX5_firstWrongLetter_75 : decode cX5_firstWrongLetter 75 = .ok (.iload_n 1, 1) := by decide +kernel
theorem dX5_firstWrongLetter_76 : decode cX5_firstWrongLetter 76 = .ok (.ifCond .gt 10, 3) := by decide +kernel
theorem dX5_firstWrongLetter_79 : decode cX5_firstWrongLetter 79 = .ok (.aload_n 0, 1) := by decide +kernel
theorem dX5_firstWrongLetter_80 : decode cX5_firstWrongLetter 80 = .ok (.getfield 15, 3) := by decide +kernel
theorem dX5_firstWrongLetter_83 : decode cX5_firstWrongLetter 83 = .ok (.ifCond .ne 10, 3) := by decide +kernel
theorem dX5_firstWrongLetter_86 : decode cX5_firstWrongLetter 86 = .ok (.aload_n 0, 1) := by decide +kernel
theorem dX5_firstWrongLetter_87 : decode cX5_firstWrongLetter 87 = .ok (.getfield 15, 3) := by decide +kernel
theorem dX5_firstWrongLetter_90 : decode cX5_firstWrongLetter 90 = .ok (.goto 4, 3) := by decide +kernel
theorem dX5_firstWrongLetter_93 : decode cX5_firstWrongLetter 93 = .ok (.iconst (-1), 1) := by decide +kernel
theorem dX5_firstWrongLetter_94 : decode cX5_firstWrongLetter 94 = .ok (.ireturn, 1) := by decide +kernel
theorem dX5_lettersBehind_0 : decode cX5_lettersBehind 0 = .ok (.iload_n 0, 1) := by decide +kernel
theorem dX5_lettersBehind_1 : decode cX5_lettersBehind 1 = .ok (.tableswitch 103 100 120 #[101, 103, 101, 103, 103, 103, 103, 99, 103, 103, 103, 103, 101, 103, 101, 101, 103, 103, 103, 103, 101], 99) := by decide +kernel
theorem dX5_lettersBehind_100 : decode cX5_lettersBehind 100 = .ok (.iconst 4, 1) := by decide +kernel
theorem dX5_lettersBehind_101 : decode cX5_lettersBehind 101 = .ok (.ireturn, 1) := by decide +kernel
theorem dX5_lettersBehind_102 : decode cX5_lettersBehind 102 = .ok (.iconst 3, 1) := by decide +kernel
theorem dX5_lettersBehind_103 : decode cX5_lettersBehind 103 = .ok (.ireturn, 1) := by decide +kernel
theorem dX5_lettersBehind_104 : decode cX5_lettersBehind 104 = .ok (.iconst 0, 1) := by decide +kernel
theorem dX5_lettersBehind_105 : decode cX5_lettersBehind 105 = .ok (.ireturn, 1) := by decide +kernel
theorem dX5_isDigit_0 : decode cX5_isDigit 0 = .ok (.iload_n 0, 1) := by decide +kernel
theorem dX5_isDigit_1 : decode cX5_isDigit 1 = .ok (.bipush 48, 2) := by decide +kernel
theorem dX5_isDigit_3 : decode cX5_isDigit 3 = .ok (.if_icmp .lt 13, 3) := by decide +kernel
theorem dX5_isDigit_6 : decode cX5_isDigit 6 = .ok (.iload_n 0, 1) := by decide +kernel
theorem dX5_isDigit_7 : decode cX5_isDigit 7 = .ok (.bipush 57, 2) := by decide +kernel
theorem dX5_isDigit_9 : decode cX5_isDigit 9 = .ok (.if_icmp .gt 7, 3) := by decide +kernel
theorem dX5_isDigit_12 : decode cX5_isDigit 12 = .ok (.iconst 1, 1) := by decide +kernel
theorem dX5_isDigit_13 : decode cX5_isDigit 13 = .ok (.goto 4, 3) := by decide +kernel
theorem dX5_isDigit_16 : decode cX5_isDigit 16 = .ok (.iconst 0, 1) := by decide +kernel
theorem dX5_isDigit_17 : decode cX5_isDigit 17 = .ok (.ireturn, 1) := by decide +kernel
theorem dX5_digit_0 : decode cX5_digit 0 = .ok (.iload_n 1, 1) := by decide +kernel
theorem dX5_digit_1 : decode cX5_digit 1 = .ok (.bipush 96, 2) := by decide +kernel
theorem dX5_digit_3 : decode cX5_digit 3 = .ok (.if_icmp .ge 15, 3) := by decide +kernel
theorem dX5_digit_6 : decode cX5_digit 6 = .ok (.aload_n 0, 1) := by decide +kernel
theorem dX5_digit_7 : decode cX5_digit 7 = .ok (.getfield 11, 3) := by decide +kernel
theorem dX5_digit_10 : decode cX5_digit 10 = .ok (.iload_n 1, 1) := by decide +kernel
theorem dX5_digit_11 : decode cX5_digit 11 = .ok (.iaload, 1) := by decide +kernel
theorem dX5_digit_12 : decode cX5_digit 12 = .ok (.bipush 48, 2) := by decide +kernel
theorem dX5_digit_14 : decode cX5_digit 14 = .ok (.isub, 1) := by decide +kernel
theorem dX5_digit_15 : decode cX5_digit 15 = .ok (.goto 4, 3) := by decide +kernel
theorem dX5_digit_18 : decode cX5_digit 18 = .ok (.iconst 0, 1) := by decide +kernel
theorem dX5_digit_19 : decode cX5_digit 19 = .ok (.ireturn, 1) := by decide +kernel
theorem dX5_twoDigits_0 : decode cX5_twoDigits 0 = .ok (.bipush 10, 2) := by decide +kernel
theorem dX5_twoDigits_2 : decode cX5_twoDigits 2 = .ok (.aload_n 0, 1) := by decide +kernel
theorem dX5_twoDigits_3 : decode cX5_twoDigits 3 = .ok (.iload_n 1, 1) := by decide +kernel
theorem dX5_twoDigits_4 : decode cX5_twoDigits 4 = .ok (.invokevirtual 39, 3) := by decide +kernel
theorem dX5_twoDigits_7 : decode cX5_twoDigits 7 = .ok (.imul, 1) := by decide +kernel
theorem dX5_twoDigits_8 : decode cX5_twoDigits 8 = .ok (.aload_n 0, 1) := by decide +kernel
theorem dX5_twoDigits_9 : decode cX5_twoDigits 9 = .ok (.iload_n 1, 1) := by decide +kernel
theorem dX5_twoDigits_10 : decode cX5_twoDigits 10 = .ok (.iconst 1, 1) := by decide +kernel
theorem dX5_twoDigits_11 : decode cX5_twoDigits 11 = .ok (.iadd, 1) := by decide +kernel
theorem dX5_twoDigits_12 : decode cX5_twoDigits 12 = .ok (.invokevirtual 39, 3) := by decide +kernel
theorem dX5_twoDigits_15 : decode cX5_twoDigits 15 = .ok (.iadd, 1) := by decide +kernel
theorem dX5_twoDigits_16 : decode cX5_twoDigits 16 = .ok (.ireturn, 1) := by decide +kernel
theorem dX5_tell_0 : decode cX5_tell 0 = .ok (.aload_n 0, 1) := by decide +kernel
theorem dX5_tell_1 : decode cX5_tell 1 = .ok (.iload_n 2, 1) := by decide +kernel
theorem dX5_tell_2 : decode cX5_tell 2 = .ok (.iconst 1, 1) := by decide +kernel
theorem dX5_tell_3 : decode cX5_tell 3 = .ok (.iadd, 1) := by decide +kernel
theorem dX5_tell_4 : decode cX5_tell 4 = .ok (.invokevirtual 39, 3) := by decide +kernel
theorem dX5_tell_7 : decode cX5_tell 7 = .ok (.istore_n 3, 1) := by decide +kernel
theorem dX5_tell_8 : decode cX5_tell 8 = .ok (.aload_n 0, 1) := by decide +kernel
theorem dX5_tell_9 : decode cX5_tell 9 = .ok (.iload_n 2, 1) := by decide +kernel
theorem dX5_tell_10 : decode cX5_tell 10 = .ok (.iconst 1, 1) := by decide +kernel
theorem dX5_tell_11 : decode cX5_tell 11 = .ok (.iadd, 1) := by decide +kernel
theorem dX5_tell_12 : decode cX5_tell 12 = .ok (.invokevirtual 42, 3) := by decide +kernel
theorem dX5_tell_15 : decode cX5_tell 15 = .ok (.istore 4, 2) := by decide +kernel
theorem dX5_tell_17 : decode cX5_tell 17 = .ok (.aload_n 0, 1) := by decide +kernel
theorem dX5_tell_18 : decode cX5_tell 18 = .ok (.getfield 11, 3) := by decide +kernel
theorem dX5_tell_21 : decode cX5_tell 21 = .ok (.iload_n 2, 1) := by decide +kernel
theorem dX5_tell_22 : decode cX5_tell 22 = .ok (.iaload, 1) := by decide +kernel
theorem dX5_tell_23 : decode cX5_tell 23 = .ok (.tableswitch 166 102 120 #[102, 166, 166, 166, 166, 115, 166, 166, 166, 166, 89, 166, 159, 144, 166, 166, 166, 166, 152], 89) := by decide +kernel
theorem dX5_tell_112 : decode cX5_tell 112 = .ok (.aload_n 1, 1) := by decide +kernel
theorem dX5_tell_113 : decode cX5_tell 113 = .ok (.iload_n 3, 1) := by decide +kernel
theorem dX5_tell_114 : decode cX5_tell 114 = .ok (.aload_n 0, 1) := by decide +kernel
theorem dX5_tell_115 : decode cX5_tell 115 = .ok (.iload_n 2, 1) := by decide +kernel
theorem dX5_tell_116 : decode cX5_tell 116 = .ok (.iconst 2, 1) := by decide +kernel
theorem dX5_tell_117 : decode cX5_tell 117 = .ok (.iadd, 1) := by decide +kernel
theorem dX5_tell_118 : decode cX5_tell 118 = .ok (.invokevirtual 39, 3) := by decide +kernel
theorem dX5_tell_121 : decode cX5_tell 121 = .ok (.invokestatic 45, 3) := by decide +kernel
theorem dX5_tell_124 : decode cX5_tell 124 = .ok (.ireturn, 1) := by decide +kernel
theorem dX5_tell_125 : decode cX5_tell 125 = .ok (.aload_n 1, 1) := by decide +kernel
theorem dX5_tell_126 : decode cX5_tell 126 = .ok (.iload_n 3, 1) := by decide +kernel
theorem dX5_tell_127 : decode cX5_tell 127 = .ok (.aload_n 0, 1) := by decide +kernel
theorem dX5_tell_128 : decode cX5_tell 128 = .ok (.iload_n 2, 1) := by decide +kernel
theorem dX5_tell_129 : decode cX5_tell 129 = .ok (.iconst 2, 1) := by decide +kernel
theorem dX5_tell_130 : decode cX5_tell 130 = .ok (.iadd, 1) := by decide +kernel
theorem dX5_tell_131 : decode cX5_tell 131 = .ok (.invokevirtual 39, 3) := by decide +kernel
theorem dX5_tell_134 : decode cX5_tell 134 = .ok (.invokestatic 49, 3) := by decide +kernel
theorem dX5_tell_137 : decode cX5_tell 137 = .ok (.ireturn, 1) := by decide +kernel
theorem dX5_tell_138 : decode cX5_tell 138 = .ok (.aload_n 1, 1) := by decide +kernel
theorem dX5_tell_139 : decode cX5_tell 139 = .ok (.iload_n 3, 1) := by decide +kernel
theorem dX5_tell_140 : decode cX5_tell 140 = .ok (.invokevirtual 52, 3) := by decide +kernel
theorem dX5_tell_143 : decode cX5_tell 143 = .ok (.ifCond .eq 22, 3) := by decide +kernel
theorem dX5_tell_146 : decode cX5_tell 146 = .ok (.aload_n 1, 1) := by decide +kernel
theorem dX5_tell_147 : decode cX5_tell 147 = .ok (.iload_n 3, 1) := by decide +kernel
theorem dX5_tell_148 : decode cX5_tell 148 = .ok (.aload_n 0, 1) := by decide +kernel
theorem dX5_tell_149 : decode cX5_tell 149 = .ok (.iload_n 2, 1) := by decide +kernel
theorem dX5_tell_150 : decode cX5_tell 150 = .ok (.iconst 2, 1) := by decide +kernel
theorem dX5_tell_151 : decode cX5_tell 151 = .ok (.iadd, 1) := by decide +kernel
theorem dX5_tell_152 : decode cX5_tell 152 = .ok (.invokevirtual 42, 3) := by decide +kernel
theorem dX5_tell_155 : decode cX5_tell 155 = .ok (.invokestatic 57, 3) := by decide +kernel
theorem dX5_tell_158 : decode cX5_tell 158 = .ok (.ifCond .eq 7, 3) := by decide +kernel
theorem dX5_tell_161 : decode cX5_tell 161 = .ok (.iconst 1, 1) := by decide +kernel
theorem dX5_tell_162 : decode cX5_tell 162 = .ok (.goto 4, 3) := by decide +kernel
theorem dX5_tell_165 : decode cX5_tell 165 = .ok (.iconst 0, 1) := by decide +kernel
theorem dX5_tell_166 : decode cX5_tell 166 = .ok (.ireturn, 1) := by decide +kernel
theorem dX5_tell_167 : decode cX5_tell 167 = .ok (.aload_n 1, 1) := by decide +kernel
theorem dX5_tell_168 : decode cX5_tell 168 = .ok (.iconst (-1), 1) := by decide +kernel
theorem dX5_tell_169 : decode cX5_tell 169 = .ok (.iload 4, 2) := by decide +kernel
theorem dX5_tell_171 : decode cX5_tell 171 = .ok (.invokestatic 57, 3) := by decide +kernel
theorem dX5_tell_174 : decode cX5_tell 174 = .ok (.ireturn, 1) := by decide +kernel
theorem dX5_tell_175 : decode cX5_tell 175 = .ok (.aload_n 1, 1) := by decide +kernel
theorem dX5_tell_176 : decode cX5_tell 176 = .ok (.iload 4, 2) := by decide +kernel
theorem dX5_tell_178 : decode cX5_tell 178 = .ok (.invokestatic 60, 3) := by decide +kernel
theorem dX5_tell_181 : decode cX5_tell 181 = .ok (.ireturn, 1) := by decide +kernel
theorem dX5_tell_182 : decode cX5_tell 182 = .ok (.aload_n 1, 1) := by decide +kernel
theorem dX5_tell_183 : decode cX5_tell 183 = .ok (.iload 4, 2) := by decide +kernel
theorem dX5_tell_185 : decode cX5_tell 185 = .ok (.invokestatic 63, 3) := by decide +kernel
theorem dX5_tell_188 : decode cX5_tell 188 = .ok (.ireturn, 1) := by decide +kernel
theorem dX5_tell_189 : decode cX5_tell 189 = .ok (.aload_n 1, 1) := by decide +kernel
theorem dX5_tell_190 : decode cX5_tell 190 = .ok (.iload 4, 2) := by decide +kernel
theorem dX5_tell_192 : decode cX5_tell 192 = .ok (.invokestatic 66, 3) := by decide +kernel
theorem dX5_tell_195 : decode cX5_tell 195 = .ok (.ifCond .ne 5, 3) := by decide +kernel
theorem dX5_tell_198 : decode cX5_tell 198 = .ok (.iconst 0, 1) := by decide +kernel
theorem dX5_tell_199 : decode cX5_tell 199 = .ok (.ireturn, 1) := by decide +kernel
theorem dX5_tell_200 : decode cX5_tell 200 = .ok (.aload_n 1, 1) := by decide +kernel
theorem dX5_tell_201 : decode cX5_tell 201 = .ok (.iload 4, 2) := by decide +kernel
theorem dX5_tell_203 : decode cX5_tell 203 = .ok (.invokevirtual 69, 3) := by decide +kernel
theorem dX5_tell_206 : decode cX5_tell 206 = .ok (.iconst 1, 1) := by decide +kernel
theorem dX5_tell_207 : decode cX5_tell 207 = .ok (.ireturn, 1) := by decide +kernel
theorem dX5_tellPerson_0 : decode cX5_tellPerson 0 = .ok (.iload_n 1, 1) := by decide +kernel
theorem dX5_tellPerson_1 : decode cX5_tellPerson 1 = .ok (.invokestatic 73, 3) := by decide +kernel
theorem dX5_tellPerson_4 : decode cX5_tellPerson 4 = .ok (.ifCond .eq 12, 3) := by decide +kernel
theorem dX5_tellPerson_7 : decode cX5_tellPerson 7 = .ok (.aload_n 0, 1) := by decide +kernel
theorem dX5_tellPerson_8 : decode cX5_tellPerson 8 = .ok (.getfield 78, 3) := by decide +kernel
theorem dX5_tellPerson_11 : decode cX5_tellPerson 11 = .ok (.bipush 6, 2) := by decide +kernel
theorem dX5_tellPerson_13 : decode cX5_tellPerson 13 = .ok (.if_icmp .lt 5, 3) := by decide +kernel
theorem dX5_tellPerson_16 : decode cX5_tellPerson 16 = .ok (.iconst 0, 1) := by decide +kernel
theorem dX5_tellPerson_17 : decode cX5_tellPerson 17 = .ok (.ireturn, 1) := by decide +kernel
theorem dX5_tellPerson_18 : decode cX5_tellPerson 18 = .ok (.aload_n 0, 1) := by decide +kernel
theorem dX5_tellPerson_19 : decode cX5_tellPerson 19 = .ok (.iload_n 1, 1) := by decide +kernel
theorem dX5_tellPerson_20 : decode cX5_tellPerson 20 = .ok (.iload_n 2, 1) := by decide +kernel
theorem dX5_tellPerson_21 : decode cX5_tellPerson 21 = .ok (.invokevirtual 81, 3) := by decide +kernel
theorem dX5_tellPerson_24 : decode cX5_tellPerson 24 = .ok (.pop, 1) := by decide +kernel
theorem dX5_tellPerson_25 : decode cX5_tellPerson 25 = .ok (.iconst 1, 1) := by decide +kernel
theorem dX5_tellPerson_26 : decode cX5_tellPerson 26 = .ok (.ireturn, 1) := by decide +kernel
theorem dX5_tellFriend_0 : decode cX5_tellFriend 0 = .ok (.aload_n 0, 1) := by decide +kernel
theorem dX5_tellFriend_1 : decode cX5_tellFriend 1 = .ok (.iload_n 1, 1) := by decide +kernel
theorem dX5_tellFriend_2 : decode cX5_tellFriend 2 = .ok (.invokevirtual 52, 3) := by decide +kernel
theorem dX5_tellFriend_5 : decode cX5_tellFriend 5 = .ok (.ifCond .eq 8, 3) := by decide +kernel
theorem dX5_tellFriend_8 : decode cX5_tellFriend 8 = .ok (.iload_n 2, 1) := by decide +kernel
theorem dX5_tellFriend_9 : decode cX5_tellFriend 9 = .ok (.iconst 5, 1) := by decide +kernel
theorem dX5_tellFriend_10 : decode cX5_tellFriend 10 = .ok (.if_icmp .le 5, 3) := by decide +kernel
theorem dX5_tellFriend_13 : decode cX5_tellFriend 13 = .ok (.iconst 0, 1) := by decide +kernel
theorem dX5_tellFriend_14 : decode cX5_tellFriend 14 = .ok (.ireturn, 1) := by decide +kernel
theorem dX5_tellFriend_15 : decode cX5_tellFriend 15 = .ok (.aload_n 0, 1) := by decide +kernel
theorem dX5_tellFriend_16 : decode cX5_tellFriend 16 = .ok (.getfield 85, 3) := by decide +kernel
theorem dX5_tellFriend_19 : decode cX5_tellFriend 19 = .ok (.iload_n 1, 1) := by decide +kernel
theorem dX5_tellFriend_20 : decode cX5_tellFriend 20 = .ok (.iload_n 2, 1) := by decide +kernel
theorem dX5_tellFriend_21 : decode cX5_tellFriend 21 = .ok (.iastore, 1) := by decide +kernel
theorem dX5_tellFriend_22 : decode cX5_tellFriend 22 = .ok (.iconst 1, 1) := by decide +kernel
theorem dX5_tellFriend_23 : decode cX5_tellFriend 23 = .ok (.ireturn, 1) := by decide +kernel
theorem dX5_tellSecret_0 : decode cX5_tellSecret 0 = .ok (.iload_n 2, 1) := by decide +kernel
theorem dX5_tellSecret_1 : decode cX5_tellSecret 1 = .ok (.bipush 39, 2) := by decide +kernel
theorem dX5_tellSecret_3 : decode cX5_tellSecret 3 = .ok (.if_icmp .le 5, 3) := by decide +kernel
theorem dX5_tellSecret_6 : decode cX5_tellSecret 6 = .ok (.iconst 0, 1) := by decide +kernel
theorem dX5_tellSecret_7 : decode cX5_tellSecret 7 = .ok (.ireturn, 1) := by decide +kernel
theorem dX5_tellSecret_8 : decode cX5_tellSecret 8 = .ok (.aload_n 0, 1) := by decide +kernel
theorem dX5_tellSecret_9 : decode cX5_tellSecret 9 = .ok (.iload_n 1, 1) := by decide +kernel
theorem dX5_tellSecret_10 : decode cX5_tellSecret 10 = .ok (.iload_n 2, 1) := by decide +kernel
theorem dX5_tellSecret_11 : decode cX5_tellSecret 11 = .ok (.invokestatic 88, 3) := by decide +kernel
theorem dX5_tellSecret_14 : decode cX5_tellSecret 14 = .ok (.invokevirtual 94, 3) := by decide +kernel
theorem dX5_tellSecret_17 : decode cX5_tellSecret 17 = .ok (.iconst 1, 1) := by decide +kernel
theorem dX5_tellSecret_18 : decode cX5_tellSecret 18 = .ok (.ireturn, 1) := by decide +kernel
theorem dX5_tellForbidden_0 : decode cX5_tellForbidden 0 = .ok (.iload_n 1, 1) := by decide +kernel
theorem dX5_tellForbidden_1 : decode cX5_tellForbidden 1 = .ok (.bipush 39, 2) := by decide +kernel
theorem dX5_tellForbidden_3 : decode cX5_tellForbidden 3 = .ok (.if_icmp .le 5, 3) := by decide +kernel
theorem dX5_tellForbidden_6 : decode cX5_tellForbidden 6 = .ok (.iconst 0, 1) := by decide +kernel
theorem dX5_tellForbidden_7 : decode cX5_tellForbidden 7 = .ok (.ireturn, 1) := by decide +kernel
theorem dX5_tellForbidden_8 : decode cX5_tellForbidden 8 = .ok (.aload_n 0, 1) := by decide +kernel
theorem dX5_tellForbidden_9 : decode cX5_tellForbidden 9 = .ok (.dup, 1) := by decide +kernel
theorem dX5_tellForbidden_10 : decode cX5_tellForbidden 10 = .ok (.getfield 98, 3) := by decide +kernel
theorem dX5_tellForbidden_13 : decode cX5_tellForbidden 13 = .ok (.iload_n 1, 1) := by decide +kernel
theorem dX5_tellForbidden_14 : decode cX5_tellForbidden 14 = .ok (.invokestatic 88, 3) := by decide +kernel
theorem dX5_tellForbidden_17 : decode cX5_tellForbidden 17 = .ok (.lxor, 1) := by decide +kernel
theorem dX5_tellForbidden_18 : decode cX5_tellForbidden 18 = .ok (.putfield 98, 3) := by decide +kernel
theorem dX5_tellForbidden_21 : decode cX5_tellForbidden 21 = .ok (.iconst 1, 1) := by decide +kernel
theorem dX5_tellForbidden_22 : decode cX5_tellForbidden 22 = .ok (.ireturn, 1) := by decide +kernel
theorem dX5_tellRubber_0 : decode cX5_tellRubber 0 = .ok (.iload_n 1, 1) := by decide +kernel
theorem dX5_tellRubber_1 : decode cX5_tellRubber 1 = .ok (.bipush 18, 2) := by decide +kernel
theorem dX5_tellRubber_3 : decode cX5_tellRubber 3 = .ok (.if_icmp .le 5, 3) := by decide +kernel
theorem dX5_tellRubber_6 : decode cX5_tellRubber 6 = .ok (.iconst 0, 1) := by decide +kernel
theorem dX5_tellRubber_7 : decode cX5_tellRubber 7 = .ok (.ireturn, 1) := by decide +kernel
theorem dX5_tellRubber_8 : decode cX5_tellRubber 8 = .ok (.aload_n 0, 1) := by decide +kernel
theorem dX5_tellRubber_9 : decode cX5_tellRubber 9 = .ok (.iload_n 1, 1) := by decide +kernel
theorem dX5_tellRubber_10 : decode cX5_tellRubber 10 = .ok (.putfield 102, 3) := by decide +kernel
theorem dX5_tellRubber_13 : decode cX5_tellRubber 13 = .ok (.iconst 1, 1) := by decide +kernel
theorem dX5_tellRubber_14 : decode cX5_tellRubber 14 = .ok (.ireturn, 1) := by decide +kernel
theorem dX5_mayPass_0 : decode cX5_mayPass 0 = .ok (.iload_n 1, 1) := by decide +kernel
theorem dX5_mayPass_1 : decode cX5_mayPass 1 = .ok (.iconst 1, 1) := by decide +kernel
theorem dX5_mayPass_2 : decode cX5_mayPass 2 = .ok (.if_icmp .lt 25, 3) := by decide +kernel
theorem dX5_mayPass_5 : decode cX5_mayPass 5 = .ok (.iload_n 1, 1) := by decide +kernel
theorem dX5_mayPass_6 : decode cX5_mayPass 6 = .ok (.bipush 60, 2) := by decide +kernel
theorem dX5_mayPass_8 : decode cX5_mayPass 8 = .ok (.if_icmp .gt 19, 3) := by decide +kernel
theorem dX5_mayPass_11 : decode cX5_mayPass 11 = .ok (.aload_n 0, 1) := by decide +kernel
theorem dX5_mayPass_12 : decode cX5_mayPass 12 = .ok (.getfield 105, 3) := by decide +kernel
theorem dX5_mayPass_15 : decode cX5_mayPass 15 = .ok (.iload_n 1, 1) := by decide +kernel
theorem dX5_mayPass_16 : decode cX5_mayPass 16 = .ok (.iadd, 1) := by decide +kernel
theorem dX5_mayPass_17 : decode cX5_mayPass 17 = .ok (.sipush 999, 3) := by decide +kernel
theorem dX5_mayPass_20 : decode cX5_mayPass 20 = .ok (.if_icmp .gt 7, 3) := by decide +kernel
theorem dX5_mayPass_23 : decode cX5_mayPass 23 = .ok (.iconst 1, 1) := by decide +kernel
theorem dX5_mayPass_24 : decode cX5_mayPass 24 = .ok (.goto 4, 3) := by decide +kernel
theorem dX5_mayPass_27 : decode cX5_mayPass 27 = .ok (.iconst 0, 1) := by decide +kernel
theorem dX5_mayPass_28 : decode cX5_mayPass 28 = .ok (.ireturn, 1) := by decide +kernel
theorem dX6_only_0 : decode cX6_only 0 = .ok (.lconst 1, 1) := by decide +kernel
theorem dX6_only_1 : decode cX6_only 1 = .ok (.iload_n 0, 1) := by decide +kernel
theorem dX6_only_2 : decode cX6_only 2 = .ok (.lshl, 1) := by decide +kernel
theorem dX6_only_3 : decode cX6_only 3 = .ok (.lreturn, 1) := by decide +kernel
theorem dX6_isAmong_0 : decode cX6_isAmong 0 = .ok (.lload_n 0, 1) := by decide +kernel
theorem dX6_isAmong_1 : decode cX6_isAmong 1 = .ok (.iload_n 2, 1) := by decide +kernel
theorem dX6_isAmong_2 : decode cX6_isAmong 2 = .ok (.invokestatic 9, 3) := by decide +kernel
theorem dX6_isAmong_5 : decode cX6_isAmong 5 = .ok (.land, 1) := by decide +kernel
theorem dX6_isAmong_6 : decode cX6_isAmong 6 = .ok (.lconst 0, 1) := by decide +kernel
theorem dX6_isAmong_7 : decode cX6_isAmong 7 = .ok (.lcmp, 1) := by decide +kernel
theorem dX6_isAmong_8 : decode cX6_isAmong 8 = .ok (.ifCond .eq 7, 3) := by decide +kernel
theorem dX6_isAmong_11 : decode cX6_isAmong 11 = .ok (.iconst 1, 1) := by decide +kernel
theorem dX6_isAmong_12 : decode cX6_isAmong 12 = .ok (.goto 4, 3) := by decide +kernel
theorem dX6_isAmong_15 : decode cX6_isAmong 15 = .ok (.iconst 0, 1) := by decide +kernel
theorem dX6_isAmong_16 : decode cX6_isAmong 16 = .ok (.ireturn, 1) := by decide +kernel
theorem dX6_leastFrom_0 : decode cX6_leastFrom 0 = .ok (.iload_n 2, 1) := by decide +kernel
theorem dX6_leastFrom_1 : decode cX6_leastFrom 1 = .ok (.istore_n 3, 1) := by decide +kernel
theorem dX6_leastFrom_2 : decode cX6_leastFrom 2 = .ok (.iload_n 3, 1) := by decide +kernel
theorem dX6_leastFrom_3 : decode cX6_leastFrom 3 = .ok (.bipush 40, 2) := by decide +kernel
theorem dX6_leastFrom_5 : decode cX6_leastFrom 5 = .ok (.if_icmp .ge 21, 3) := by decide +kernel
theorem dX6_leastFrom_8 : decode cX6_leastFrom 8 = .ok (.lload_n 0, 1) := by decide +kernel
theorem dX6_leastFrom_9 : decode cX6_leastFrom 9 = .ok (.lconst 1, 1) := by decide +kernel
theorem dX6_leastFrom_10 : decode cX6_leastFrom 10 = .ok (.iload_n 3, 1) := by decide +kernel
theorem dX6_leastFrom_11 : decode cX6_leastFrom 11 = .ok (.lshl, 1) := by decide +kernel
theorem dX6_leastFrom_12 : decode cX6_leastFrom 12 = .ok (.land, 1) := by decide +kernel
theorem dX6_leastFrom_13 : decode cX6_leastFrom 13 = .ok (.lconst 0, 1) := by decide +kernel
theorem dX6_leastFrom_14 : decode cX6_leastFrom 14 = .ok (.lcmp, 1) := by decide +kernel
theorem dX6_leastFrom_15 : decode cX6_leastFrom 15 = .ok (.ifCond .eq 5, 3) := by decide +kernel
theorem dX6_leastFrom_18 : decode cX6_leastFrom 18 = .ok (.iload_n 3, 1) := by decide +kernel
theorem dX6_leastFrom_19 : decode cX6_leastFrom 19 = .ok (.ireturn, 1) := by decide +kernel
theorem dX6_leastFrom_20 : decode cX6_leastFrom 20 = .ok (.iinc 3 1, 3) := by decide +kernel
theorem dX6_leastFrom_23 : decode cX6_leastFrom 23 = .ok (.goto (-21), 3) := by decide +kernel
theorem dX6_leastFrom_26 : decode cX6_leastFrom 26 = .ok (.bipush (-9), 2) := by decide +kernel
theorem dX6_leastFrom_28 : decode cX6_leastFrom 28 = .ok (.ireturn, 1) := by decide +kernel
theorem dX6_greatest_0 : decode cX6_greatest 0 = .ok (.bipush 39, 2) := by decide +kernel
theorem dX6_greatest_2 : decode cX6_greatest 2 = .ok (.istore_n 2, 1) := by decide +kernel
theorem dX6_greatest_3 : decode cX6_greatest 3 = .ok (.iload_n 2, 1) := by decide +kernel
theorem dX6_greatest_4 : decode cX6_greatest 4 = .ok (.ifCond .lt 21, 3) := by decide +kernel
theorem dX6_greatest_7 : decode cX6_greatest 7 = .ok (.lload_n 0, 1) := by decide +kernel
theorem dX6_greatest_8 : decode cX6_greatest 8 = .ok (.lconst 1, 1) := by decide +kernel
theorem dX6_greatest_9 : decode cX6_greatest 9 = .ok (.iload_n 2, 1) := by decide +kernel
theorem dX6_greatest_10 : decode cX6_greatest 10 = .ok (.lshl, 1) := by decide +kernel
theorem dX6_greatest_11 : decode cX6_greatest 11 = .ok (.land, 1) := by decide +kernel
theorem dX6_greatest_12 : decode cX6_greatest 12 = .ok (.lconst 0, 1) := by decide +kernel
theorem dX6_greatest_13 : decode cX6_greatest 13 = .ok (.lcmp, 1) := by decide +kernel
theorem dX6_greatest_14 : decode cX6_greatest 14 = .ok (.ifCond .eq 5, 3) := by decide +kernel
theorem dX6_greatest_17 : decode cX6_greatest 17 = .ok (.iload_n 2, 1) := by decide +kernel
theorem dX6_greatest_18 : decode cX6_greatest 18 = .ok (.ireturn, 1) := by decide +kernel
theorem dX6_greatest_19 : decode cX6_greatest 19 = .ok (.iinc 2 (-1), 3) := by decide +kernel
theorem dX6_greatest_22 : decode cX6_greatest 22 = .ok (.goto (-19), 3) := by decide +kernel
theorem dX6_greatest_25 : decode cX6_greatest 25 = .ok (.bipush (-9), 2) := by decide +kernel
theorem dX6_greatest_27 : decode cX6_greatest 27 = .ok (.ireturn, 1) := by decide +kernel
theorem dX6_firstFew_0 : decode cX6_firstFew 0 = .ok (.lload_n 0, 1) := by decide +kernel
theorem dX6_firstFew_1 : decode cX6_firstFew 1 = .ok (.lstore 4, 2) := by decide +kernel
theorem dX6_firstFew_3 : decode cX6_firstFew 3 = .ok (.iconst 0, 1) := by decide +kernel
theorem dX6_firstFew_4 : decode cX6_firstFew 4 = .ok (.istore 6, 2) := by decide +kernel
theorem dX6_firstFew_6 : decode cX6_firstFew 6 = .ok (.iload 6, 2) := by decide +kernel
theorem dX6_firstFew_8 : decode cX6_firstFew 8 = .ok (.iload_n 2, 1) := by decide +kernel
theorem dX6_firstFew_9 : decode cX6_firstFew 9 = .ok (.if_icmp .ge 44, 3) := by decide +kernel
theorem dX6_firstFew_12 : decode cX6_firstFew 12 = .ok (.lload 4, 2) := by decide +kernel
theorem dX6_firstFew_14 : decode cX6_firstFew 14 = .ok (.lconst 0, 1) := by decide +kernel
theorem dX6_firstFew_15 : decode cX6_firstFew 15 = .ok (.lcmp, 1) := by decide +kernel
theorem dX6_firstFew_16 : decode cX6_firstFew 16 = .ok (.ifCond .eq 37, 3) := by decide +kernel
theorem dX6_firstFew_19 : decode cX6_firstFew 19 = .ok (.lload 4, 2) := by decide +kernel
theorem dX6_firstFew_21 : decode cX6_firstFew 21 = .ok (.iload_n 3, 1) := by decide +kernel
theorem dX6_firstFew_22 : decode cX6_firstFew 22 = .ok (.ifCond .eq 18, 3) := by decide +kernel
theorem dX6_firstFew_25 : decode cX6_firstFew 25 = .ok (.lload 4, 2) := by decide +kernel
theorem dX6_firstFew_27 : decode cX6_firstFew 27 = .ok (.invokestatic 15, 3) := by decide +kernel
theorem dX6_firstFew_30 : decode cX6_firstFew 30 = .ok (.invokestatic 9, 3) := by decide +kernel
theorem dX6_firstFew_33 : decode cX6_firstFew 33 = .ok (.ldc2_w 19, 3) := by decide +kernel
theorem dX6_firstFew_36 : decode cX6_firstFew 36 = .ok (.lxor, 1) := by decide +kernel
theorem dX6_firstFew_37 : decode cX6_firstFew 37 = .ok (.goto 7, 3) := by decide +kernel
theorem dX6_firstFew_40 : decode cX6_firstFew 40 = .ok (.lload 4, 2) := by decide +kernel
theorem dX6_firstFew_42 : decode cX6_firstFew 42 = .ok (.lconst 1, 1) := by decide +kernel
theorem dX6_firstFew_43 : decode cX6_firstFew 43 = .ok (.lsub, 1) := by decide +kernel
theorem dX6_firstFew_44 : decode cX6_firstFew 44 = .ok (.land, 1) := by decide +kernel
theorem dX6_firstFew_45 : decode cX6_firstFew 45 = .ok (.lstore 4, 2) := by decide +kernel
theorem dX6_firstFew_47 : decode cX6_firstFew 47 = .ok (.iinc 6 1, 3) := by decide +kernel
theorem dX6_firstFew_50 : decode cX6_firstFew 50 = .ok (.goto (-44), 3) := by decide +kernel
theorem dX6_firstFew_53 : decode cX6_firstFew 53 = .ok (.lload_n 0, 1) := by decide +kernel
theorem dX6_firstFew_54 : decode cX6_firstFew 54 = .ok (.lload 4, 2) := by decide +kernel
theorem dX6_firstFew_56 : decode cX6_firstFew 56 = .ok (.ldc2_w 19, 3) := by decide +kernel
theorem dX6_firstFew_59 : decode cX6_firstFew 59 = .ok (.lxor, 1) := by decide +kernel
theorem dX6_firstFew_60 : decode cX6_firstFew 60 = .ok (.land, 1) := by decide +kernel
theorem dX6_firstFew_61 : decode cX6_firstFew 61 = .ok (.lreturn, 1) := by decide +kernel
theorem dX7_init_0 : decode cX7_init 0 = .ok (.aload_n 0, 1) := by decide +kernel
theorem dX7_init_1 : decode cX7_init 1 = .ok (.invokespecial 3, 3) := by decide +kernel
theorem dX7_init_4 : decode cX7_init 4 = .ok (.aload_n 0, 1) := by decide +kernel
theorem dX7_init_5 : decode cX7_init 5 = .ok (.bipush 6, 2) := by decide +kernel
theorem dX7_init_7 : decode cX7_init 7 = .ok (.newarray .int, 2) := by decide +kernel
theorem dX7_init_9 : decode cX7_init 9 = .ok (.putfield 9, 3) := by decide +kernel
theorem dX7_init_12 : decode cX7_init 12 = .ok (.aload_n 0, 1) := by decide +kernel
theorem dX7_init_13 : decode cX7_init 13 = .ok (.bipush 6, 2) := by decide +kernel
theorem dX7_init_15 : decode cX7_init 15 = .ok (.newarray .int, 2) := by decide +kernel
theorem dX7_init_17 : decode cX7_init 17 = .ok (.putfield 15, 3) := by decide +kernel
theorem dX7_init_20 : decode cX7_init 20 = .ok (.aload_n 0, 1) := by decide +kernel
theorem dX7_init_21 : decode cX7_init 21 = .ok (.bipush 6, 2) := by decide +kernel
theorem dX7_init_23 : decode cX7_init 23 = .ok (.newarray .int, 2) := by decide +kernel
theorem dX7_init_25 : decode cX7_init 25 = .ok (.putfield 18, 3) := by decide +kernel
theorem dX7_init_28 : decode cX7_init 28 = .ok (.aload_n 0, 1) := by decide +kernel
theorem dX7_init_29 : decode cX7_init 29 = .ok (.bipush 6, 2) := by decide +kernel
theorem dX7_init_31 : decode cX7_init 31 = .ok (.newarray .long, 2) := by decide +kernel
theorem dX7_init_33 : decode cX7_init 33 = .ok (.putfield 21, 3) := by decide +kernel
theorem dX7_init_36 : decode cX7_init 36 = .ok (.aload_n 0, 1) := by decide +kernel
theorem dX7_init_37 : decode cX7_init 37 = .ok (.bipush 6, 2) := by decide +kernel
theorem dX7_init_39 : decode cX7_init 39 = .ok (.newarray .long, 2) := by decide +kernel
theorem dX7_init_41 : decode cX7_init 41 = .ok (.putfield 25, 3) := by decide +kernel
theorem dX7_init_44 : decode cX7_init 44 = .ok (.aload_n 0, 1) := by decide +kernel
theorem dX7_init_45 : decode cX7_init 45 = .ok (.new 28, 3) := by decide +kernel
theorem dX7_init_48 : decode cX7_init 48 = .ok (.dup, 1) := by decide +kernel
theorem dX7_init_49 : decode cX7_init 49 = .ok (.invokespecial 30, 3) := by decide +kernel
theorem dX7_init_52 : decode cX7_init 52 = .ok (.putfield 31, 3) := by decide +kernel
theorem dX7_init_55 : decode cX7_init 55 = .ok (.aload_n 0, 1) := by decide +kernel
theorem dX7_init_56 : decode cX7_init 56 = .ok (.bipush 6, 2) := by decide +kernel
theorem dX7_init_58 : decode cX7_init 58 = .ok (.putfield 35, 3) := by decide +kernel
theorem dX7_init_61 : decode cX7_init 61 = .ok (.return_, 1) := by decide +kernel
theorem dX7_becomeLike_0 : decode cX7_becomeLike 0 = .ok (.aload_n 0, 1) := by decide +kernel
theorem dX7_becomeLike_1 : decode cX7_becomeLike 1 = .ok (.aload_n 1, 1) := by decide +kernel
theorem dX7_becomeLike_2 : decode cX7_becomeLike 2 = .ok (.getfield 39, 3) := by decide +kernel
theorem dX7_becomeLike_5 : decode cX7_becomeLike 5 = .ok (.putfield 39, 3) := by decide +kernel
theorem dX7_becomeLike_8 : decode cX7_becomeLike 8 = .ok (.aload_n 1, 1) := by decide +kernel
theorem dX7_becomeLike_9 : decode cX7_becomeLike 9 = .ok (.getfield 9, 3) := by decide +kernel
theorem dX7_becomeLike_12 : decode cX7_becomeLike 12 = .ok (.iconst 0, 1) := by decide +kernel
theorem dX7_becomeLike_13 : decode cX7_becomeLike 13 = .ok (.aload_n 0, 1) := by decide +kernel
theorem dX7_becomeLike_14 : decode cX7_becomeLike 14 = .ok (.getfield 9, 3) := by decide +kernel
theorem dX7_becomeLike_17 : decode cX7_becomeLike 17 = .ok (.iconst 0, 1) := by decide +kernel
theorem dX7_becomeLike_18 : decode cX7_becomeLike 18 = .ok (.bipush 6, 2) := by decide +kernel
theorem dX7_becomeLike_20 : decode cX7_becomeLike 20 = .ok (.invokestatic 42, 3) := by decide +kernel
theorem dX7_becomeLike_23 : decode cX7_becomeLike 23 = .ok (.aload_n 1, 1) := by decide +kernel
theorem dX7_becomeLike_24 : decode cX7_becomeLike 24 = .ok (.getfield 15, 3) := by decide +kernel
theorem dX7_becomeLike_27 : decode cX7_becomeLike 27 = .ok (.iconst 0, 1) := by decide +kernel
theorem dX7_becomeLike_28 : decode cX7_becomeLike 28 = .ok (.aload_n 0, 1) := by decide +kernel
theorem dX7_becomeLike_29 : decode cX7_becomeLike 29 = .ok (.getfield 15, 3) := by decide +kernel
theorem dX7_becomeLike_32 : decode cX7_becomeLike 32 = .ok (.iconst 0, 1) := by decide +kernel
theorem dX7_becomeLike_33 : decode cX7_becomeLike 33 = .ok (.bipush 6, 2) := by decide +kernel
theorem dX7_becomeLike_35 : decode cX7_becomeLike 35 = .ok (.invokestatic 42, 3) := by decide +kernel
theorem dX7_becomeLike_38 : decode cX7_becomeLike 38 = .ok (.aload_n 1, 1) := by decide +kernel
theorem dX7_becomeLike_39 : decode cX7_becomeLike 39 = .ok (.getfield 18, 3) := by decide +kernel
theorem dX7_becomeLike_42 : decode cX7_becomeLike 42 = .ok (.iconst 0, 1) := by decide +kernel
theorem dX7_becomeLike_43 : decode cX7_becomeLike 43 = .ok (.aload_n 0, 1) := by decide +kernel
theorem dX7_becomeLike_44 : decode cX7_becomeLike 44 = .ok (.getfield 18, 3) := by decide +kernel
theorem dX7_becomeLike_47 : decode cX7_becomeLike 47 = .ok (.iconst 0, 1) := by decide +kernel
theorem dX7_becomeLike_48 : decode cX7_becomeLike 48 = .ok (.bipush 6, 2) := by decide +kernel
theorem dX7_becomeLike_50 : decode cX7_becomeLike 50 = .ok (.invokestatic 42, 3) := by decide +kernel
theorem dX7_becomeLike_53 : decode cX7_becomeLike 53 = .ok (.aload_n 1, 1) := by decide +kernel
theorem dX7_becomeLike_54 : decode cX7_becomeLike 54 = .ok (.getfield 21, 3) := by decide +kernel
theorem dX7_becomeLike_57 : decode cX7_becomeLike 57 = .ok (.iconst 0, 1) := by decide +kernel
theorem dX7_becomeLike_58 : decode cX7_becomeLike 58 = .ok (.aload_n 0, 1) := by decide +kernel
theorem dX7_becomeLike_59 : decode cX7_becomeLike 59 = .ok (.getfield 21, 3) := by decide +kernel
theorem dX7_becomeLike_62 : decode cX7_becomeLike 62 = .ok (.iconst 0, 1) := by decide +kernel
theorem dX7_becomeLike_63 : decode cX7_becomeLike 63 = .ok (.bipush 6, 2) := by decide +kernel
theorem dX7_becomeLike_65 : decode cX7_becomeLike 65 = .ok (.invokestatic 42, 3) := by decide +kernel
theorem dX7_becomeLike_68 : decode cX7_becomeLike 68 = .ok (.aload_n 1, 1) := by decide +kernel
theorem dX7_becomeLike_69 : decode cX7_becomeLike 69 = .ok (.getfield 25, 3) := by decide +kernel
theorem dX7_becomeLike_72 : decode cX7_becomeLike 72 = .ok (.iconst 0, 1) := by decide +kernel
theorem dX7_becomeLike_73 : decode cX7_becomeLike 73 = .ok (.aload_n 0, 1) := by decide +kernel
theorem dX7_becomeLike_74 : decode cX7_becomeLike 74 = .ok (.getfield 25, 3) := by decide +kernel
theorem dX7_becomeLike_77 : decode cX7_becomeLike 77 = .ok (.iconst 0, 1) := by decide +kernel
theorem dX7_becomeLike_78 : decode cX7_becomeLike 78 = .ok (.bipush 6, 2) := by decide +kernel
theorem dX7_becomeLike_80 : decode cX7_becomeLike 80 = .ok (.invokestatic 42, 3) := by decide +kernel
theorem dX7_becomeLike_83 : decode cX7_becomeLike 83 = .ok (.aload_n 0, 1) := by decide +kernel
theorem dX7_becomeLike_84 : decode cX7_becomeLike 84 = .ok (.getfield 31, 3) := by decide +kernel
theorem dX7_becomeLike_87 : decode cX7_becomeLike 87 = .ok (.aload_n 1, 1) := by decide +kernel
theorem dX7_becomeLike_88 : decode cX7_becomeLike 88 = .ok (.getfield 31, 3) := by decide +kernel
theorem dX7_becomeLike_91 : decode cX7_becomeLike 91 = .ok (.invokevirtual 48, 3) := by decide +kernel
theorem dX7_becomeLike_94 : decode cX7_becomeLike 94 = .ok (.aload_n 0, 1) := by decide +kernel
theorem dX7_becomeLike_95 : decode cX7_becomeLike 95 = .ok (.aload_n 1, 1) := by decide +kernel
theorem dX7_becomeLike_96 : decode cX7_becomeLike 96 = .ok (.getfield 52, 3) := by decide +kernel
theorem dX7_becomeLike_99 : decode cX7_becomeLike 99 = .ok (.putfield 52, 3) := by decide +kernel
theorem dX7_becomeLike_102 : decode cX7_becomeLike 102 = .ok (.aload_n 0, 1) := by decide +kernel
theorem dX7_becomeLike_103 : decode cX7_becomeLike 103 = .ok (.aload_n 1, 1) := by decide +kernel
theorem dX7_becomeLike_104 : decode cX7_becomeLike 104 = .ok (.getfield 56, 3) := by decide +kernel
theorem dX7_becomeLike_107 : decode cX7_becomeLike 107 = .ok (.putfield 56, 3) := by decide +kernel
theorem dX7_becomeLike_110 : decode cX7_becomeLike 110 = .ok (.aload_n 0, 1) := by decide +kernel
theorem dX7_becomeLike_111 : decode cX7_becomeLike 111 = .ok (.aload_n 1, 1) := by decide +kernel
theorem dX7_becomeLike_112 : decode cX7_becomeLike 112 = .ok (.getfield 35, 3) := by decide +kernel
theorem dX7_becomeLike_115 : decode cX7_becomeLike 115 = .ok (.putfield 35, 3) := by decide +kernel
theorem dX7_becomeLike_118 : decode cX7_becomeLike 118 = .ok (.aload_n 0, 1) := by decide +kernel
theorem dX7_becomeLike_119 : decode cX7_becomeLike 119 = .ok (.aload_n 1, 1) := by decide +kernel
theorem dX7_becomeLike_120 : decode cX7_becomeLike 120 = .ok (.getfield 59, 3) := by decide +kernel
theorem dX7_becomeLike_123 : decode cX7_becomeLike 123 = .ok (.putfield 59, 3) := by decide +kernel
theorem dX7_becomeLike_126 : decode cX7_becomeLike 126 = .ok (.aload_n 0, 1) := by decide +kernel
theorem dX7_becomeLike_127 : decode cX7_becomeLike 127 = .ok (.aload_n 1, 1) := by decide +kernel
theorem dX7_becomeLike_128 : decode cX7_becomeLike 128 = .ok (.getfield 62, 3) := by decide +kernel
theorem dX7_becomeLike_131 : decode cX7_becomeLike 131 = .ok (.putfield 62, 3) := by decide +kernel
theorem dX7_becomeLike_134 : decode cX7_becomeLike 134 = .ok (.aload_n 0, 1) := by decide +kernel
theorem dX7_becomeLike_135 : decode cX7_becomeLike 135 = .ok (.aload_n 1, 1) := by decide +kernel
theorem dX7_becomeLike_136 : decode cX7_becomeLike 136 = .ok (.getfield 65, 3) := by decide +kernel
theorem dX7_becomeLike_139 : decode cX7_becomeLike 139 = .ok (.putfield 65, 3) := by decide +kernel
theorem dX7_becomeLike_142 : decode cX7_becomeLike 142 = .ok (.aload_n 0, 1) := by decide +kernel
theorem dX7_becomeLike_143 : decode cX7_becomeLike 143 = .ok (.iconst 0, 1) := by decide +kernel
theorem dX7_becomeLike_144 : decode cX7_becomeLike 144 = .ok (.putfield 68, 3) := by decide +kernel
theorem dX7_becomeLike_147 : decode cX7_becomeLike 147 = .ok (.aload_n 0, 1) := by decide +kernel
theorem dX7_becomeLike_148 : decode cX7_becomeLike 148 = .ok (.iconst 0, 1) := by decide +kernel
theorem dX7_becomeLike_149 : decode cX7_becomeLike 149 = .ok (.putfield 71, 3) := by decide +kernel
theorem dX7_becomeLike_152 : decode cX7_becomeLike 152 = .ok (.aload_n 0, 1) := by decide +kernel
theorem dX7_becomeLike_153 : decode cX7_becomeLike 153 = .ok (.iconst 0, 1) := by decide +kernel
theorem dX7_becomeLike_154 : decode cX7_becomeLike 154 = .ok (.putfield 75, 3) := by decide +kernel
theorem dX7_becomeLike_157 : decode cX7_becomeLike 157 = .ok (.return_, 1) := by decide +kernel
theorem dX7_letCome_0 : decode cX7_letCome 0 = .ok (.aload_n 0, 1) := by decide +kernel
theorem dX7_letCome_1 : decode cX7_letCome 1 = .ok (.getfield 39, 3) := by decide +kernel
theorem dX7_letCome_4 : decode cX7_letCome 4 = .ok (.istore_n 3, 1) := by decide +kernel
theorem dX7_letCome_5 : decode cX7_letCome 5 = .ok (.iload_n 3, 1) := by decide +kernel
theorem dX7_letCome_6 : decode cX7_letCome 6 = .ok (.bipush 6, 2) := by decide +kernel
theorem dX7_letCome_8 : decode cX7_letCome 8 = .ok (.if_icmp .lt 6, 3) := by decide +kernel
theorem dX7_letCome_11 : decode cX7_letCome 11 = .ok (.bipush (-9), 2) := by decide +kernel
theorem dX7_letCome_13 : decode cX7_letCome 13 = .ok (.ireturn, 1) := by decide +kernel
theorem dX7_letCome_14 : decode cX7_letCome 14 = .ok (.aload_n 0, 1) := by decide +kernel
theorem dX7_letCome_15 : decode cX7_letCome 15 = .ok (.getfield 9, 3) := by decide +kernel
theorem dX7_letCome_18 : decode cX7_letCome 18 = .ok (.iload_n 3, 1) := by decide +kernel
theorem dX7_letCome_19 : decode cX7_letCome 19 = .ok (.iload_n 1, 1) := by decide +kernel
theorem dX7_letCome_20 : decode cX7_letCome 20 = .ok (.iastore, 1) := by decide +kernel
theorem dX7_letCome_21 : decode cX7_letCome 21 = .ok (.aload_n 0, 1) := by decide +kernel
theorem dX7_letCome_22 : decode cX7_letCome 22 = .ok (.getfield 15, 3) := by decide +kernel
theorem dX7_letCome_25 : decode cX7_letCome 25 = .ok (.iload_n 3, 1) := by decide +kernel
theorem dX7_letCome_26 : decode cX7_letCome 26 = .ok (.iload_n 2, 1) := by decide +kernel
theorem dX7_letCome_27 : decode cX7_letCome 27 = .ok (.iastore, 1) := by decide +kernel
theorem dX7_letCome_28 : decode cX7_letCome 28 = .ok (.aload_n 0, 1) := by decide +kernel
theorem dX7_letCome_29 : decode cX7_letCome 29 = .ok (.getfield 18, 3) := by decide +kernel
theorem dX7_letCome_32 : decode cX7_letCome 32 = .ok (.iload_n 3, 1) := by decide +kernel
theorem dX7_letCome_33 : decode cX7_letCome 33 = .ok (.iload_n 3, 1) := by decide +kernel
theorem dX7_letCome_34 : decode cX7_letCome 34 = .ok (.iconst 5, 1) := by decide +kernel
theorem dX7_letCome_35 : decode cX7_letCome 35 = .ok (.if_icmp .ne 7, 3) := by decide +kernel
theorem dX7_letCome_38 : decode cX7_letCome 38 = .ok (.iconst 0, 1) := by decide +kernel
theorem dX7_letCome_39 : decode cX7_letCome 39 = .ok (.goto 6, 3) := by decide +kernel
theorem dX7_letCome_42 : decode cX7_letCome 42 = .ok (.iload_n 3, 1) := by decide +kernel
theorem dX7_letCome_43 : decode cX7_letCome 43 = .ok (.iconst 1, 1) := by decide +kernel
theorem dX7_letCome_44 : decode cX7_letCome 44 = .ok (.iadd, 1) := by decide +kernel
theorem dX7_letCome_45 : decode cX7_letCome 45 = .ok (.iastore, 1) := by decide +kernel
theorem dX7_letCome_46 : decode cX7_letCome 46 = .ok (.aload_n 0, 1) := by decide +kernel
theorem dX7_letCome_47 : decode cX7_letCome 47 = .ok (.getfield 21, 3) := by decide +kernel
theorem dX7_letCome_50 : decode cX7_letCome 50 = .ok (.iload_n 3, 1) := by decide +kernel
theorem dX7_letCome_51 : decode cX7_letCome 51 = .ok (.lconst 0, 1) := by decide +kernel
theorem dX7_letCome_52 : decode cX7_letCome 52 = .ok (.lastore, 1) := by decide +kernel
theorem dX7_letCome_53 : decode cX7_letCome 53 = .ok (.aload_n 0, 1) := by decide +kernel
theorem dX7_letCome_54 : decode cX7_letCome 54 = .ok (.getfield 25, 3) := by decide +kernel
theorem dX7_letCome_57 : decode cX7_letCome 57 = .ok (.iload_n 3, 1) := by decide +kernel
theorem dX7_letCome_58 : decode cX7_letCome 58 = .ok (.lconst 0, 1) := by decide +kernel
theorem dX7_letCome_59 : decode cX7_letCome 59 = .ok (.lastore, 1) := by decide +kernel
theorem dX7_letCome_60 : decode cX7_letCome 60 = .ok (.aload_n 0, 1) := by decide +kernel
theorem dX7_letCome_61 : decode cX7_letCome 61 = .ok (.dup, 1) := by decide +kernel
theorem dX7_letCome_62 : decode cX7_letCome 62 = .ok (.getfield 39, 3) := by decide +kernel
theorem dX7_letCome_65 : decode cX7_letCome 65 = .ok (.iconst 1, 1) := by decide +kernel
theorem dX7_letCome_66 : decode cX7_letCome 66 = .ok (.iadd, 1) := by decide +kernel
theorem dX7_letCome_67 : decode cX7_letCome 67 = .ok (.putfield 39, 3) := by decide +kernel
theorem dX7_letCome_70 : decode cX7_letCome 70 = .ok (.iload_n 3, 1) := by decide +kernel
theorem dX7_letCome_71 : decode cX7_letCome 71 = .ok (.ireturn, 1) := by decide +kernel
theorem dX7_ofPerson_0 : decode cX7_ofPerson 0 = .ok (.aload_n 0, 1) := by decide +kernel
theorem dX7_ofPerson_1 : decode cX7_ofPerson 1 = .ok (.getfield 9, 3) := by decide +kernel
theorem dX7_ofPerson_4 : decode cX7_ofPerson 4 = .ok (.iload_n 1, 1) := by decide +kernel
theorem dX7_ofPerson_5 : decode cX7_ofPerson 5 = .ok (.iaload, 1) := by decide +kernel
theorem dX7_ofPerson_6 : decode cX7_ofPerson 6 = .ok (.istore_n 3, 1) := by decide +kernel
theorem dX7_ofPerson_7 : decode cX7_ofPerson 7 = .ok (.aload_n 0, 1) := by decide +kernel
theorem dX7_ofPerson_8 : decode cX7_ofPerson 8 = .ok (.getfield 15, 3) := by decide +kernel
theorem dX7_ofPerson_11 : decode cX7_ofPerson 11 = .ok (.iload_n 1, 1) := by decide +kernel
theorem dX7_ofPerson_12 : decode cX7_ofPerson 12 = .ok (.iaload, 1) := by decide +kernel
theorem dX7_ofPerson_13 : decode cX7_ofPerson 13 = .ok (.istore 4, 2) := by decide +kernel
theorem dX7_ofPerson_15 : decode cX7_ofPerson 15 = .ok (.iload_n 2, 1) := by decide +kernel
theorem dX7_ofPerson_16 : decode cX7_ofPerson 16 = .ok (.tableswitch 107 0 7 #[48, 50, 53, 60, 70, 80, 93, 100], 48) := by decide +kernel
theorem dX7_ofPerson_64 : decode cX7_ofPerson 64 = .ok (.iload_n 3, 1) := by decide +kernel
theorem dX7_ofPerson_65 : decode cX7_ofPerson 65 = .ok (.ireturn, 1) := by decide +kernel
theorem dX7_ofPerson_66 : decode cX7_ofPerson 66 = .ok (.iload 4, 2) := by decide +kernel
theorem dX7_ofPerson_68 : decode cX7_ofPerson 68 = .ok (.ireturn, 1) := by decide +kernel
theorem dX7_ofPerson_69 : decode cX7_ofPerson 69 = .ok (.aload_n 0, 1) := by decide +kernel
theorem dX7_ofPerson_70 : decode cX7_ofPerson 70 = .ok (.getfield 18, 3) := by decide +kernel
theorem dX7_ofPerson_73 : decode cX7_ofPerson 73 = .ok (.iload_n 1, 1) := by decide +kernel
theorem dX7_ofPerson_74 : decode cX7_ofPerson 74 = .ok (.iaload, 1) := by decide +kernel
theorem dX7_ofPerson_75 : decode cX7_ofPerson 75 = .ok (.ireturn, 1) := by decide +kernel
theorem dX7_ofPerson_76 : decode cX7_ofPerson 76 = .ok (.aload_n 0, 1) := by decide +kernel
theorem dX7_ofPerson_77 : decode cX7_ofPerson 77 = .ok (.getfield 21, 3) := by decide +kernel
theorem dX7_ofPerson_80 : decode cX7_ofPerson 80 = .ok (.iload_n 1, 1) := by decide +kernel
theorem dX7_ofPerson_81 : decode cX7_ofPerson 81 = .ok (.laload, 1) := by decide +kernel
theorem dX7_ofPerson_82 : decode cX7_ofPerson 82 = .ok (.invokestatic 78, 3) := by decide +kernel
theorem dX7_ofPerson_85 : decode cX7_ofPerson 85 = .ok (.ireturn, 1) := by decide +kernel
theorem dX7_ofPerson_86 : decode cX7_ofPerson 86 = .ok (.aload_n 0, 1) := by decide +kernel
theorem dX7_ofPerson_87 : decode cX7_ofPerson 87 = .ok (.getfield 25, 3) := by decide +kernel
theorem dX7_ofPerson_90 : decode cX7_ofPerson 90 = .ok (.iload_n 1, 1) := by decide +kernel
theorem dX7_ofPerson_91 : decode cX7_ofPerson 91 = .ok (.laload, 1) := by decide +kernel
theorem dX7_ofPerson_92 : decode cX7_ofPerson 92 = .ok (.invokestatic 78, 3) := by decide +kernel
theorem dX7_ofPerson_95 : decode cX7_ofPerson 95 = .ok (.ireturn, 1) := by decide +kernel
theorem dX7_ofPerson_96 : decode cX7_ofPerson 96 = .ok (.iload_n 3, 1) := by decide +kernel
theorem dX7_ofPerson_97 : decode cX7_ofPerson 97 = .ok (.iload 4, 2) := by decide +kernel
theorem dX7_ofPerson_99 : decode cX7_ofPerson 99 = .ok (.aload_n 0, 1) := by decide +kernel
theorem dX7_ofPerson_100 : decode cX7_ofPerson 100 = .ok (.getfield 65, 3) := by decide +kernel
theorem dX7_ofPerson_103 : decode cX7_ofPerson 103 = .ok (.iconst 1, 1) := by decide +kernel
theorem dX7_ofPerson_104 : decode cX7_ofPerson 104 = .ok (.iadd, 1) := by decide +kernel
theorem dX7_ofPerson_105 : decode cX7_ofPerson 105 = .ok (.invokestatic 84, 3) := by decide +kernel
theorem dX7_ofPerson_108 : decode cX7_ofPerson 108 = .ok (.ireturn, 1) := by decide +kernel
theorem dX7_ofPerson_109 : decode cX7_ofPerson 109 = .ok (.iload_n 3, 1) := by decide +kernel
theorem dX7_ofPerson_110 : decode cX7_ofPerson 110 = .ok (.iload 4, 2) := by decide +kernel
theorem dX7_ofPerson_112 : decode cX7_ofPerson 112 = .ok (.invokestatic 90, 3) := by decide +kernel
theorem dX7_ofPerson_115 : decode cX7_ofPerson 115 = .ok (.ireturn, 1) := by decide +kernel
theorem dX7_ofPerson_116 : decode cX7_ofPerson 116 = .ok (.iload_n 3, 1) := by decide +kernel
theorem dX7_ofPerson_117 : decode cX7_ofPerson 117 = .ok (.iload 4, 2) := by decide +kernel
theorem dX7_ofPerson_119 : decode cX7_ofPerson 119 = .ok (.invokestatic 94, 3) := by decide +kernel
theorem dX7_ofPerson_122 : decode cX7_ofPerson 122 = .ok (.ireturn, 1) := by decide +kernel
theorem dX7_ofPerson_123 : decode cX7_ofPerson 123 = .ok (.iload_n 3, 1) := by decide +kernel
theorem dX7_ofPerson_124 : decode cX7_ofPerson 124 = .ok (.invokestatic 97, 3) := by decide +kernel
theorem dX7_ofPerson_127 : decode cX7_ofPerson 127 = .ok (.ireturn, 1) := by decide +kernel
theorem dX7_inAll_0 : decode cX7_inAll 0 = .ok (.iload_n 1, 1) := by decide +kernel
theorem dX7_inAll_1 : decode cX7_inAll 1 = .ok (.tableswitch 45 0 2 #[27, 35, 40], 27) := by decide +kernel
theorem dX7_inAll_28 : decode cX7_inAll 28 = .ok (.aload_n 0, 1) := by decide +kernel
theorem dX7_inAll_29 : decode cX7_inAll 29 = .ok (.getfield 31, 3) := by decide +kernel
theorem dX7_inAll_32 : decode cX7_inAll 32 = .ok (.getfield 101, 3) := by decide +kernel
theorem dX7_inAll_35 : decode cX7_inAll 35 = .ok (.ireturn, 1) := by decide +kernel
theorem dX7_inAll_36 : decode cX7_inAll 36 = .ok (.aload_n 0, 1) := by decide +kernel
theorem dX7_inAll_37 : decode cX7_inAll 37 = .ok (.getfield 59, 3) := by decide +kernel
theorem dX7_inAll_40 : decode cX7_inAll 40 = .ok (.ireturn, 1) := by decide +kernel
theorem dX7_inAll_41 : decode cX7_inAll 41 = .ok (.aload_n 0, 1) := by decide +kernel
theorem dX7_inAll_42 : decode cX7_inAll 42 = .ok (.getfield 62, 3) := by decide +kernel
theorem dX7_inAll_45 : decode cX7_inAll 45 = .ok (.ireturn, 1) := by decide +kernel
theorem dX7_inAll_46 : decode cX7_inAll 46 = .ok (.aload_n 0, 1) := by decide +kernel
theorem dX7_inAll_47 : decode cX7_inAll 47 = .ok (.invokevirtual 104, 3) := by decide +kernel
theorem dX7_inAll_50 : decode cX7_inAll 50 = .ok (.ireturn, 1) := by decide +kernel
theorem dX7_hasPerson_0 : decode cX7_hasPerson 0 = .ok (.iload_n 1, 1) := by decide +kernel
theorem dX7_hasPerson_1 : decode cX7_hasPerson 1 = .ok (.ifCond .lt 15, 3) := by decide +kernel
theorem dX7_hasPerson_4 : decode cX7_hasPerson 4 = .ok (.iload_n 1, 1) := by decide +kernel
theorem dX7_hasPerson_5 : decode cX7_hasPerson 5 = .ok (.aload_n 0, 1) := by decide +kernel
theorem dX7_hasPerson_6 : decode cX7_hasPerson 6 = .ok (.getfield 39, 3) := by decide +kernel
theorem dX7_hasPerson_9 : decode cX7_hasPerson 9 = .ok (.if_icmp .ge 7, 3) := by decide +kernel
theorem dX7_hasPerson_12 : decode cX7_hasPerson 12 = .ok (.iconst 1, 1) := by decide +kernel
theorem dX7_hasPerson_13 : decode cX7_hasPerson 13 = .ok (.goto 4, 3) := by decide +kernel
theorem dX7_hasPerson_16 : decode cX7_hasPerson 16 = .ok (.iconst 0, 1) := by decide +kernel
theorem dX7_hasPerson_17 : decode cX7_hasPerson 17 = .ok (.ireturn, 1) := by decide +kernel
theorem dX7_hasRowFor_0 : decode cX7_hasRowFor 0 = .ok (.iload_n 0, 1) := by decide +kernel
theorem dX7_hasRowFor_1 : decode cX7_hasRowFor 1 = .ok (.ifCond .lt 13, 3) := by decide +kernel
theorem dX7_hasRowFor_4 : decode cX7_hasRowFor 4 = .ok (.iload_n 0, 1) := by decide +kernel
theorem dX7_hasRowFor_5 : decode cX7_hasRowFor 5 = .ok (.bipush 6, 2) := by decide +kernel
theorem dX7_hasRowFor_7 : decode cX7_hasRowFor 7 = .ok (.if_icmp .ge 7, 3) := by decide +kernel
theorem dX7_hasRowFor_10 : decode cX7_hasRowFor 10 = .ok (.iconst 1, 1) := by decide +kernel
theorem dX7_hasRowFor_11 : decode cX7_hasRowFor 11 = .ok (.goto 4, 3) := by decide +kernel
theorem dX7_hasRowFor_14 : decode cX7_hasRowFor 14 = .ok (.iconst 0, 1) := by decide +kernel
theorem dX7_hasRowFor_15 : decode cX7_hasRowFor 15 = .ok (.ireturn, 1) := by decide +kernel
theorem dX7_knownBy_0 : decode cX7_knownBy 0 = .ok (.iload_n 1, 1) := by decide +kernel
theorem dX7_knownBy_1 : decode cX7_knownBy 1 = .ok (.iconst (-1), 1) := by decide +kernel
theorem dX7_knownBy_2 : decode cX7_knownBy 2 = .ok (.if_icmp .ne 8, 3) := by decide +kernel
theorem dX7_knownBy_5 : decode cX7_knownBy 5 = .ok (.aload_n 0, 1) := by decide +kernel
theorem dX7_knownBy_6 : decode cX7_knownBy 6 = .ok (.getfield 52, 3) := by decide +kernel
theorem dX7_knownBy_9 : decode cX7_knownBy 9 = .ok (.lreturn, 1) := by decide +kernel
theorem dX7_knownBy_10 : decode cX7_knownBy 10 = .ok (.iload_n 1, 1) := by decide +kernel
theorem dX7_knownBy_11 : decode cX7_knownBy 11 = .ok (.invokestatic 108, 3) := by decide +kernel
theorem dX7_knownBy_14 : decode cX7_knownBy 14 = .ok (.ifCond .eq 12, 3) := by decide +kernel
theorem dX7_knownBy_17 : decode cX7_knownBy 17 = .ok (.aload_n 0, 1) := by decide +kernel
theorem dX7_knownBy_18 : decode cX7_knownBy 18 = .ok (.getfield 21, 3) := by decide +kernel
theorem dX7_knownBy_21 : decode cX7_knownBy 21 = .ok (.iload_n 1, 1) := by decide +kernel
theorem dX7_knownBy_22 : decode cX7_knownBy 22 = .ok (.laload, 1) := by decide +kernel
theorem dX7_knownBy_23 : decode cX7_knownBy 23 = .ok (.goto 4, 3) := by decide +kernel
theorem dX7_knownBy_26 : decode cX7_knownBy 26 = .ok (.lconst 0, 1) := by decide +kernel
theorem dX7_knownBy_27 : decode cX7_knownBy 27 = .ok (.lreturn, 1) := by decide +kernel
theorem dX7_hasLearnt_0 : decode cX7_hasLearnt 0 = .ok (.aload_n 0, 1) := by decide +kernel
theorem dX7_hasLearnt_1 : decode cX7_hasLearnt 1 = .ok (.iload_n 1, 1) := by decide +kernel
theorem dX7_hasLearnt_2 : decode cX7_hasLearnt 2 = .ok (.invokevirtual 112, 3) := by decide +kernel
theorem dX7_hasLearnt_5 : decode cX7_hasLearnt 5 = .ok (.iload_n 2, 1) := by decide +kernel
theorem dX7_hasLearnt_6 : decode cX7_hasLearnt 6 = .ok (.invokestatic 116, 3) := by decide +kernel
theorem dX7_hasLearnt_9 : decode cX7_hasLearnt 9 = .ok (.ireturn, 1) := by decide +kernel
theorem dX7_learn_0 : decode cX7_learn 0 = .ok (.iload_n 1, 1) := by decide +kernel
theorem dX7_learn_1 : decode cX7_learn 1 = .ok (.iconst (-1), 1) := by decide +kernel
theorem dX7_learn_2 : decode cX7_learn 2 = .ok (.if_icmp .ne 16, 3) := by decide +kernel
theorem dX7_learn_5 : decode cX7_learn 5 = .ok (.aload_n 0, 1) := by decide +kernel
theorem dX7_learn_6 : decode cX7_learn 6 = .ok (.dup, 1) := by decide +kernel
theorem dX7_learn_7 : decode cX7_learn 7 = .ok (.getfield 52, 3) := by decide +kernel
theorem dX7_learn_10 : decode cX7_learn 10 = .ok (.lload_n 2, 1) := by decide +kernel
theorem dX7_learn_11 : decode cX7_learn 11 = .ok (.lor, 1) := by decide +kernel
theorem dX7_learn_12 : decode cX7_learn 12 = .ok (.putfield 52, 3) := by decide +kernel
theorem dX7_learn_15 : decode cX7_learn 15 = .ok (.goto 20, 3) := by decide +kernel
theorem dX7_learn_18 : decode cX7_learn 18 = .ok (.iload_n 1, 1) := by decide +kernel
theorem dX7_learn_19 : decode cX7_learn 19 = .ok (.invokestatic 108, 3) := by decide +kernel
theorem dX7_learn_22 : decode cX7_learn 22 = .ok (.ifCond .eq 13, 3) := by decide +kernel
theorem dX7_learn_25 : decode cX7_learn 25 = .ok (.aload_n 0, 1) := by decide +kernel
theorem dX7_learn_26 : decode cX7_learn 26 = .ok (.getfield 21, 3) := by decide +kernel
theorem dX7_learn_29 : decode cX7_learn 29 = .ok (.iload_n 1, 1) := by decide +kernel
theorem dX7_learn_30 : decode cX7_learn 30 = .ok (.dup2, 1) := by decide +kernel
theorem dX7_learn_31 : decode cX7_learn 31 = .ok (.laload, 1) := by decide +kernel
theorem dX7_learn_32 : decode cX7_learn 32 = .ok (.lload_n 2, 1) := by decide +kernel
theorem dX7_learn_33 : decode cX7_learn 33 = .ok (.lor, 1) := by decide +kernel
theorem dX7_learn_34 : decode cX7_learn 34 = .ok (.lastore, 1) := by decide +kernel
theorem dX7_learn_35 : decode cX7_learn 35 = .ok (.return_, 1) := by decide +kernel
theorem dX7_knownTogether_0 : decode cX7_knownTogether 0 = .ok (.iconst 0, 1) := by decide +kernel
theorem dX7_knownTogether_1 : decode cX7_knownTogether 1 = .ok (.istore_n 1, 1) := by decide +kernel
theorem dX7_knownTogether_2 : decode cX7_knownTogether 2 = .ok (.iconst 0, 1) := by decide +kernel
theorem dX7_knownTogether_3 : decode cX7_knownTogether 3 = .ok (.istore_n 2, 1) := by decide +kernel
theorem dX7_knownTogether_4 : decode cX7_knownTogether 4 = .ok (.iload_n 2, 1) := by decide +kernel
theorem dX7_knownTogether_5 : decode cX7_knownTogether 5 = .ok (.aload_n 0, 1) := by decide +kernel
theorem dX7_knownTogether_6 : decode cX7_knownTogether 6 = .ok (.getfield 39, 3) := by decide +kernel
theorem dX7_knownTogether_9 : decode cX7_knownTogether 9 = .ok (.if_icmp .ge 21, 3) := by decide +kernel
theorem dX7_knownTogether_12 : decode cX7_knownTogether 12 = .ok (.iload_n 1, 1) := by decide +kernel
theorem dX7_knownTogether_13 : decode cX7_knownTogether 13 = .ok (.aload_n 0, 1) := by decide +kernel
theorem dX7_knownTogether_14 : decode cX7_knownTogether 14 = .ok (.getfield 21, 3) := by decide +kernel
theorem dX7_knownTogether_17 : decode cX7_knownTogether 17 = .ok (.iload_n 2, 1) := by decide +kernel
theorem dX7_knownTogether_18 : decode cX7_knownTogether 18 = .ok (.laload, 1) := by decide +kernel
theorem dX7_knownTogether_19 : decode cX7_knownTogether 19 = .ok (.invokestatic 78, 3) := by decide +kernel
theorem dX7_knownTogether_22 : decode cX7_knownTogether 22 = .ok (.iadd, 1) := by decide +kernel
theorem dX7_knownTogether_23 : decode cX7_knownTogether 23 = .ok (.istore_n 1, 1) := by decide +kernel
theorem dX7_knownTogether_24 : decode cX7_knownTogether 24 = .ok (.iinc 2 1, 3) := by decide +kernel
theorem dX7_knownTogether_27 : decode cX7_knownTogether 27 = .ok (.goto (-23), 3) := by decide +kernel
theorem dX7_knownTogether_30 : decode cX7_knownTogether 30 = .ok (.iload_n 1, 1) := by decide +kernel
theorem dX7_knownTogether_31 : decode cX7_knownTogether 31 = .ok (.ireturn, 1) := by decide +kernel
theorem dX7_knownInAll_0 : decode cX7_knownInAll 0 = .ok (.aload_n 0, 1) := by decide +kernel
theorem dX7_knownInAll_1 : decode cX7_knownInAll 1 = .ok (.invokevirtual 104, 3) := by decide +kernel
theorem dX7_knownInAll_4 : decode cX7_knownInAll 4 = .ok (.aload_n 0, 1) := by decide +kernel
theorem dX7_knownInAll_5 : decode cX7_knownInAll 5 = .ok (.getfield 52, 3) := by decide +kernel
theorem dX7_knownInAll_8 : decode cX7_knownInAll 8 = .ok (.invokestatic 78, 3) := by decide +kernel
theorem dX7_knownInAll_11 : decode cX7_knownInAll 11 = .ok (.iadd, 1) := by decide +kernel
theorem dX7_knownInAll_12 : decode cX7_knownInAll 12 = .ok (.ireturn, 1) := by decide +kernel
theorem dX7_knownByAny_0 : decode cX7_knownByAny 0 = .ok (.lconst 0, 1) := by decide +kernel
theorem dX7_knownByAny_1 : decode cX7_knownByAny 1 = .ok (.lstore_n 1, 1) := by decide +kernel
theorem dX7_knownByAny_2 : decode cX7_knownByAny 2 = .ok (.iconst 0, 1) := by decide +kernel
theorem dX7_knownByAny_3 : decode cX7_knownByAny 3 = .ok (.istore_n 3, 1) := by decide +kernel
theorem dX7_knownByAny_4 : decode cX7_knownByAny 4 = .ok (.iload_n 3, 1) := by decide +kernel
theorem dX7_knownByAny_5 : decode cX7_knownByAny 5 = .ok (.aload_n 0, 1) := by decide +kernel
theorem dX7_knownByAny_6 : decode cX7_knownByAny 6 = .ok (.getfield 39, 3) := by decide +kernel
theorem dX7_knownByAny_9 : decode cX7_knownByAny 9 = .ok (.if_icmp .ge 18, 3) := by decide +kernel
theorem dX7_knownByAny_12 : decode cX7_knownByAny 12 = .ok (.lload_n 1, 1) := by decide +kernel
theorem dX7_knownByAny_13 : decode cX7_knownByAny 13 = .ok (.aload_n 0, 1) := by decide +kernel
theorem dX7_knownByAny_14 : decode cX7_knownByAny 14 = .ok (.getfield 21, 3) := by decide +kernel
theorem dX7_knownByAny_17 : decode cX7_knownByAny 17 = .ok (.iload_n 3, 1) := by decide +kernel
theorem dX7_knownByAny_18 : decode cX7_knownByAny 18 = .ok (.laload, 1) := by decide +kernel
theorem dX7_knownByAny_19 : decode cX7_knownByAny 19 = .ok (.lor, 1) := by decide +kernel
theorem dX7_knownByAny_20 : decode cX7_knownByAny 20 = .ok (.lstore_n 1, 1) := by decide +kernel
theorem dX7_knownByAny_21 : decode cX7_knownByAny 21 = .ok (.iinc 3 1, 3) := by decide +kernel
theorem dX7_knownByAny_24 : decode cX7_knownByAny 24 = .ok (.goto (-20), 3) := by decide +kernel
theorem dX7_knownByAny_27 : decode cX7_knownByAny 27 = .ok (.lload_n 1, 1) := by decide +kernel
theorem dX7_knownByAny_28 : decode cX7_knownByAny 28 = .ok (.lreturn, 1) := by decide +kernel
theorem dX7_howManyKnow_0 : decode cX7_howManyKnow 0 = .ok (.iconst 0, 1) := by decide +kernel
theorem dX7_howManyKnow_1 : decode cX7_howManyKnow 1 = .ok (.istore_n 2, 1) := by decide +kernel
theorem dX7_howManyKnow_2 : decode cX7_howManyKnow 2 = .ok (.iconst 0, 1) := by decide +kernel
theorem dX7_howManyKnow_3 : decode cX7_howManyKnow 3 = .ok (.istore_n 3, 1) := by decide +kernel
theorem dX7_howManyKnow_4 : decode cX7_howManyKnow 4 = .ok (.iload_n 3, 1) := by decide +kernel
theorem dX7_howManyKnow_5 : decode cX7_howManyKnow 5 = .ok (.aload_n 0, 1) := by decide +kernel
theorem dX7_howManyKnow_6 : decode cX7_howManyKnow 6 = .ok (.getfield 39, 3) := by decide +kernel
theorem dX7_howManyKnow_9 : decode cX7_howManyKnow 9 = .ok (.if_icmp .ge 25, 3) := by decide +kernel
theorem dX7_howManyKnow_12 : decode cX7_howManyKnow 12 = .ok (.iload_n 1, 1) := by decide +kernel
theorem dX7_howManyKnow_13 : decode cX7_howManyKnow 13 = .ok (.ifCond .lt 21, 3) := by decide +kernel
theorem dX7_howManyKnow_16 : decode cX7_howManyKnow 16 = .ok (.aload_n 0, 1) := by decide +kernel
theorem dX7_howManyKnow_17 : decode cX7_howManyKnow 17 = .ok (.iload_n 3, 1) := by decide +kernel
theorem dX7_howManyKnow_18 : decode cX7_howManyKnow 18 = .ok (.iload_n 1, 1) := by decide +kernel
theorem dX7_howManyKnow_19 : decode cX7_howManyKnow 19 = .ok (.invokevirtual 122, 3) := by decide +kernel
theorem dX7_howManyKnow_22 : decode cX7_howManyKnow 22 = .ok (.ifCond .eq 6, 3) := by decide +kernel
theorem dX7_howManyKnow_25 : decode cX7_howManyKnow 25 = .ok (.iinc 2 1, 3) := by decide +kernel
theorem dX7_howManyKnow_28 : decode cX7_howManyKnow 28 = .ok (.iinc 3 1, 3) := by decide +kernel
theorem dX7_howManyKnow_31 : decode cX7_howManyKnow 31 = .ok (.goto (-27), 3) := by decide +kernel
theorem dX7_howManyKnow_34 : decode cX7_howManyKnow 34 = .ok (.iload_n 2, 1) := by decide +kernel
theorem dX7_howManyKnow_35 : decode cX7_howManyKnow 35 = .ok (.ireturn, 1) := by decide +kernel
theorem dX7_rarestSecret_0 : decode cX7_rarestSecret 0 = .ok (.bipush (-9), 2) := by decide +kernel
theorem dX7_rarestSecret_2 : decode cX7_rarestSecret 2 = .ok (.istore_n 1, 1) := by decide +kernel
theorem dX7_rarestSecret_3 : decode cX7_rarestSecret 3 = .ok (.bipush 7, 2) := by decide +kernel
theorem dX7_rarestSecret_5 : decode cX7_rarestSecret 5 = .ok (.istore_n 2, 1) := by decide +kernel
theorem dX7_rarestSecret_6 : decode cX7_rarestSecret 6 = .ok (.iconst 0, 1) := by decide +kernel
theorem dX7_rarestSecret_7 : decode cX7_rarestSecret 7 = .ok (.istore_n 3, 1) := by decide +kernel
theorem dX7_rarestSecret_8 : decode cX7_rarestSecret 8 = .ok (.iload_n 3, 1) := by decide +kernel
theorem dX7_rarestSecret_9 : decode cX7_rarestSecret 9 = .ok (.bipush 40, 2) := by decide +kernel
theorem dX7_rarestSecret_11 : decode cX7_rarestSecret 11 = .ok (.if_icmp .ge 32, 3) := by decide +kernel
theorem dX7_rarestSecret_14 : decode cX7_rarestSecret 14 = .ok (.aload_n 0, 1) := by decide +kernel
theorem dX7_rarestSecret_15 : decode cX7_rarestSecret 15 = .ok (.iload_n 3, 1) := by decide +kernel
theorem dX7_rarestSecret_16 : decode cX7_rarestSecret 16 = .ok (.invokevirtual 126, 3) := by decide +kernel
theorem dX7_rarestSecret_19 : decode cX7_rarestSecret 19 = .ok (.istore 4, 2) := by decide +kernel
theorem dX7_rarestSecret_21 : decode cX7_rarestSecret 21 = .ok (.iload 4, 2) := by decide +kernel
theorem dX7_rarestSecret_23 : decode cX7_rarestSecret 23 = .ok (.ifCond .le 14, 3) := by decide +kernel
theorem dX7_rarestSecret_26 : decode cX7_rarestSecret 26 = .ok (.iload 4, 2) := by decide +kernel
theorem dX7_rarestSecret_28 : decode cX7_rarestSecret 28 = .ok (.iload_n 2, 1) := by decide +kernel
theorem dX7_rarestSecret_29 : decode cX7_rarestSecret 29 = .ok (.if_icmp .ge 8, 3) := by decide +kernel
theorem dX7_rarestSecret_32 : decode cX7_rarestSecret 32 = .ok (.iload 4, 2) := by decide +kernel
theorem dX7_rarestSecret_34 : decode cX7_rarestSecret 34 = .ok (.istore_n 2, 1) := by decide +kernel
theorem dX7_rarestSecret_35 : decode cX7_rarestSecret 35 = .ok (.iload_n 3, 1) := by decide +kernel
theorem dX7_rarestSecret_36 : decode cX7_rarestSecret 36 = .ok (.istore_n 1, 1) := by decide +kernel
theorem dX7_rarestSecret_37 : decode cX7_rarestSecret 37 = .ok (.iinc 3 1, 3) := by decide +kernel
theorem dX7_rarestSecret_40 : decode cX7_rarestSecret 40 = .ok (.goto (-32), 3) := by decide +kernel
theorem dX7_rarestSecret_43 : decode cX7_rarestSecret 43 = .ok (.iload_n 1, 1) := by decide +kernel
theorem dX7_rarestSecret_44 : decode cX7_rarestSecret 44 = .ok (.ireturn, 1) := by decide +kernel
theorem dX7_howManyOf_0 : decode cX7_howManyOf 0 = .ok (.iconst 0, 1) := by decide +kernel
theorem dX7_howManyOf_1 : decode cX7_howManyOf 1 = .ok (.istore_n 2, 1) := by decide +kernel
theorem dX7_howManyOf_2 : decode cX7_howManyOf 2 = .ok (.iconst 0, 1) := by decide +kernel
theorem dX7_howManyOf_3 : decode cX7_howManyOf 3 = .ok (.istore_n 3, 1) := by decide +kernel
theorem dX7_howManyOf_4 : decode cX7_howManyOf 4 = .ok (.iload_n 3, 1) := by decide +kernel
theorem dX7_howManyOf_5 : decode cX7_howManyOf 5 = .ok (.aload_n 0, 1) := by decide +kernel
theorem dX7_howManyOf_6 : decode cX7_howManyOf 6 = .ok (.getfield 39, 3) := by decide +kernel
theorem dX7_howManyOf_9 : decode cX7_howManyOf 9 = .ok (.if_icmp .ge 22, 3) := by decide +kernel
theorem dX7_howManyOf_12 : decode cX7_howManyOf 12 = .ok (.aload_n 0, 1) := by decide +kernel
theorem dX7_howManyOf_13 : decode cX7_howManyOf 13 = .ok (.getfield 9, 3) := by decide +kernel
theorem dX7_howManyOf_16 : decode cX7_howManyOf 16 = .ok (.iload_n 3, 1) := by decide +kernel
theorem dX7_howManyOf_17 : decode cX7_howManyOf 17 = .ok (.iaload, 1) := by decide +kernel
theorem dX7_howManyOf_18 : decode cX7_howManyOf 18 = .ok (.iload_n 1, 1) := by decide +kernel
theorem dX7_howManyOf_19 : decode cX7_howManyOf 19 = .ok (.if_icmp .ne 6, 3) := by decide +kernel
theorem dX7_howManyOf_22 : decode cX7_howManyOf 22 = .ok (.iinc 2 1, 3) := by decide +kernel
theorem dX7_howManyOf_25 : decode cX7_howManyOf 25 = .ok (.iinc 3 1, 3) := by decide +kernel
theorem dX7_howManyOf_28 : decode cX7_howManyOf 28 = .ok (.goto (-24), 3) := by decide +kernel
theorem dX7_howManyOf_31 : decode cX7_howManyOf 31 = .ok (.iload_n 2, 1) := by decide +kernel
theorem dX7_howManyOf_32 : decode cX7_howManyOf 32 = .ok (.ireturn, 1) := by decide +kernel
theorem dX7_hasOtherFriend_0 : decode cX7_hasOtherFriend 0 = .ok (.aload_n 0, 1) := by decide +kernel
theorem dX7_hasOtherFriend_1 : decode cX7_hasOtherFriend 1 = .ok (.aload_n 0, 1) := by decide +kernel
theorem dX7_hasOtherFriend_2 : decode cX7_hasOtherFriend 2 = .ok (.getfield 18, 3) := by decide +kernel
theorem dX7_hasOtherFriend_5 : decode cX7_hasOtherFriend 5 = .ok (.iload_n 1, 1) := by decide +kernel
theorem dX7_hasOtherFriend_6 : decode cX7_hasOtherFriend 6 = .ok (.iaload, 1) := by decide +kernel
theorem dX7_hasOtherFriend_7 : decode cX7_hasOtherFriend 7 = .ok (.invokevirtual 129, 3) := by decide +kernel
theorem dX7_hasOtherFriend_10 : decode cX7_hasOtherFriend 10 = .ok (.ifCond .eq 17, 3) := by decide +kernel
theorem dX7_hasOtherFriend_13 : decode cX7_hasOtherFriend 13 = .ok (.aload_n 0, 1) := by decide +kernel
theorem dX7_hasOtherFriend_14 : decode cX7_hasOtherFriend 14 = .ok (.getfield 18, 3) := by decide +kernel
theorem dX7_hasOtherFriend_17 : decode cX7_hasOtherFriend 17 = .ok (.iload_n 1, 1) := by decide +kernel
theorem dX7_hasOtherFriend_18 : decode cX7_hasOtherFriend 18 = .ok (.iaload, 1) := by decide +kernel
theorem dX7_hasOtherFriend_19 : decode cX7_hasOtherFriend 19 = .ok (.iload_n 1, 1) := by decide +kernel
theorem dX7_hasOtherFriend_20 : decode cX7_hasOtherFriend 20 = .ok (.if_icmp .eq 7, 3) := by decide +kernel
theorem dX7_hasOtherFriend_23 : decode cX7_hasOtherFriend 23 = .ok (.iconst 1, 1) := by decide +kernel
theorem dX7_hasOtherFriend_24 : decode cX7_hasOtherFriend 24 = .ok (.goto 4, 3) := by decide +kernel
theorem dX7_hasOtherFriend_27 : decode cX7_hasOtherFriend 27 = .ok (.iconst 0, 1) := by decide +kernel
theorem dX7_hasOtherFriend_28 : decode cX7_hasOtherFriend 28 = .ok (.ireturn, 1) := by decide +kernel
theorem dX7_reachedFrom_0 : decode cX7_reachedFrom 0 = .ok (.iconst 1, 1) := by decide +kernel
theorem dX7_reachedFrom_1 : decode cX7_reachedFrom 1 = .ok (.iload_n 1, 1) := by decide +kernel
theorem dX7_reachedFrom_2 : decode cX7_reachedFrom 2 = .ok (.ishl, 1) := by decide +kernel
theorem dX7_reachedFrom_3 : decode cX7_reachedFrom 3 = .ok (.istore_n 2, 1) := by decide +kernel
theorem dX7_reachedFrom_4 : decode cX7_reachedFrom 4 = .ok (.iload_n 1, 1) := by decide +kernel
theorem dX7_reachedFrom_5 : decode cX7_reachedFrom 5 = .ok (.istore_n 3, 1) := by decide +kernel
theorem dX7_reachedFrom_6 : decode cX7_reachedFrom 6 = .ok (.iconst 0, 1) := by decide +kernel
theorem dX7_reachedFrom_7 : decode cX7_reachedFrom 7 = .ok (.istore 4, 2) := by decide +kernel
theorem dX7_reachedFrom_9 : decode cX7_reachedFrom 9 = .ok (.iload 4, 2) := by decide +kernel
theorem dX7_reachedFrom_11 : decode cX7_reachedFrom 11 = .ok (.bipush 6, 2) := by decide +kernel
theorem dX7_reachedFrom_13 : decode cX7_reachedFrom 13 = .ok (.if_icmp .ge 35, 3) := by decide +kernel
theorem dX7_reachedFrom_16 : decode cX7_reachedFrom 16 = .ok (.aload_n 0, 1) := by decide +kernel
theorem dX7_reachedFrom_17 : decode cX7_reachedFrom 17 = .ok (.aload_n 0, 1) := by decide +kernel
theorem dX7_reachedFrom_18 : decode cX7_reachedFrom 18 = .ok (.getfield 18, 3) := by decide +kernel
theorem dX7_reachedFrom_21 : decode cX7_reachedFrom 21 = .ok (.iload_n 3, 1) := by decide +kernel
theorem dX7_reachedFrom_22 : decode cX7_reachedFrom 22 = .ok (.iaload, 1) := by decide +kernel
theorem dX7_reachedFrom_23 : decode cX7_reachedFrom 23 = .ok (.invokevirtual 129, 3) := by decide +kernel
theorem dX7_reachedFrom_26 : decode cX7_reachedFrom 26 = .ok (.ifCond .eq 22, 3) := by decide +kernel
theorem dX7_reachedFrom_29 : decode cX7_reachedFrom 29 = .ok (.aload_n 0, 1) := by decide +kernel
theorem dX7_reachedFrom_30 : decode cX7_reachedFrom 30 = .ok (.getfield 18, 3) := by decide +kernel
theorem dX7_reachedFrom_33 : decode cX7_reachedFrom 33 = .ok (.iload_n 3, 1) := by decide +kernel
theorem dX7_reachedFrom_34 : decode cX7_reachedFrom 34 = .ok (.iaload, 1) := by decide +kernel
theorem dX7_reachedFrom_35 : decode cX7_reachedFrom 35 = .ok (.istore_n 3, 1) := by decide +kernel
theorem dX7_reachedFrom_36 : decode cX7_reachedFrom 36 = .ok (.iload_n 2, 1) := by decide +kernel
theorem dX7_reachedFrom_37 : decode cX7_reachedFrom 37 = .ok (.iconst 1, 1) := by decide +kernel
theorem dX7_reachedFrom_38 : decode cX7_reachedFrom 38 = .ok (.iload_n 3, 1) := by decide +kernel
theorem dX7_reachedFrom_39 : decode cX7_reachedFrom 39 = .ok (.ishl, 1) := by decide +kernel
theorem dX7_reachedFrom_40 : decode cX7_reachedFrom 40 = .ok (.ior, 1) := by decide +kernel
theorem dX7_reachedFrom_41 : decode cX7_reachedFrom 41 = .ok (.istore_n 2, 1) := by decide +kernel
theorem dX7_reachedFrom_42 : decode cX7_reachedFrom 42 = .ok (.iinc 4 1, 3) := by decide +kernel
theorem dX7_reachedFrom_45 : decode cX7_reachedFrom 45 = .ok (.goto (-36), 3) := by decide +kernel
theorem dX7_reachedFrom_48 : decode cX7_reachedFrom 48 = .ok (.iload_n 2, 1) := by decide +kernel
theorem dX7_reachedFrom_49 : decode cX7_reachedFrom 49 = .ok (.ireturn, 1) := by decide +kernel
theorem dX7_ringFrom_0 : decode cX7_ringFrom 0 = .ok (.iload_n 1, 1) := by decide +kernel
theorem dX7_ringFrom_1 : decode cX7_ringFrom 1 = .ok (.istore_n 2, 1) := by decide +kernel
theorem dX7_ringFrom_2 : decode cX7_ringFrom 2 = .ok (.iconst 0, 1) := by decide +kernel
theorem dX7_ringFrom_3 : decode cX7_ringFrom 3 = .ok (.istore_n 3, 1) := by decide +kernel
theorem dX7_ringFrom_4 : decode cX7_ringFrom 4 = .ok (.iload_n 3, 1) := by decide +kernel
theorem dX7_ringFrom_5 : decode cX7_ringFrom 5 = .ok (.bipush 6, 2) := by decide +kernel
theorem dX7_ringFrom_7 : decode cX7_ringFrom 7 = .ok (.if_icmp .ge 27, 3) := by decide +kernel
theorem dX7_ringFrom_10 : decode cX7_ringFrom 10 = .ok (.aload_n 0, 1) := by decide +kernel
theorem dX7_ringFrom_11 : decode cX7_ringFrom 11 = .ok (.iload_n 2, 1) := by decide +kernel
theorem dX7_ringFrom_12 : decode cX7_ringFrom 12 = .ok (.invokevirtual 132, 3) := by decide +kernel
theorem dX7_ringFrom_15 : decode cX7_ringFrom 15 = .ok (.ifCond .ne 6, 3) := by decide +kernel
theorem dX7_ringFrom_18 : decode cX7_ringFrom 18 = .ok (.bipush (-9), 2) := by decide +kernel
theorem dX7_ringFrom_20 : decode cX7_ringFrom 20 = .ok (.ireturn, 1) := by decide +kernel
theorem dX7_ringFrom_21 : decode cX7_ringFrom 21 = .ok (.aload_n 0, 1) := by decide +kernel
theorem dX7_ringFrom_22 : decode cX7_ringFrom 22 = .ok (.getfield 18, 3) := by decide +kernel
theorem dX7_ringFrom_25 : decode cX7_ringFrom 25 = .ok (.iload_n 2, 1) := by decide +kernel
theorem dX7_ringFrom_26 : decode cX7_ringFrom 26 = .ok (.iaload, 1) := by decide +kernel
theorem dX7_ringFrom_27 : decode cX7_ringFrom 27 = .ok (.istore_n 2, 1) := by decide +kernel
theorem dX7_ringFrom_28 : decode cX7_ringFrom 28 = .ok (.iinc 3 1, 3) := by decide +kernel
theorem dX7_ringFrom_31 : decode cX7_ringFrom 31 = .ok (.goto (-27), 3) := by decide +kernel
theorem dX7_ringFrom_34 : decode cX7_ringFrom 34 = .ok (.aload_n 0, 1) := by decide +kernel
theorem dX7_ringFrom_35 : decode cX7_ringFrom 35 = .ok (.iload_n 2, 1) := by decide +kernel
theorem dX7_ringFrom_36 : decode cX7_ringFrom 36 = .ok (.invokevirtual 135, 3) := by decide +kernel
theorem dX7_ringFrom_39 : decode cX7_ringFrom 39 = .ok (.invokestatic 138, 3) := by decide +kernel
theorem dX7_ringFrom_42 : decode cX7_ringFrom 42 = .ok (.ireturn, 1) := by decide +kernel
theorem dX7_passDays_0 : decode cX7_passDays 0 = .ok (.iconst 0, 1) := by decide +kernel
theorem dX7_passDays_1 : decode cX7_passDays 1 = .ok (.istore_n 2, 1) := by decide +kernel
theorem dX7_passDays_2 : decode cX7_passDays 2 = .ok (.iload_n 2, 1) := by decide +kernel
theorem dX7_passDays_3 : decode cX7_passDays 3 = .ok (.iload_n 1, 1) := by decide +kernel
theorem dX7_passDays_4 : decode cX7_passDays 4 = .ok (.if_icmp .ge 44, 3) := by decide +kernel
theorem dX7_passDays_7 : decode cX7_passDays 7 = .ok (.aload_n 0, 1) := by decide +kernel
theorem dX7_passDays_8 : decode cX7_passDays 8 = .ok (.dup, 1) := by decide +kernel
theorem dX7_passDays_9 : decode cX7_passDays 9 = .ok (.getfield 65, 3) := by decide +kernel
theorem dX7_passDays_12 : decode cX7_passDays 12 = .ok (.iconst 1, 1) := by decide +kernel
theorem dX7_passDays_13 : decode cX7_passDays 13 = .ok (.iadd, 1) := by decide +kernel
theorem dX7_passDays_14 : decode cX7_passDays 14 = .ok (.putfield 65, 3) := by decide +kernel
theorem dX7_passDays_17 : decode cX7_passDays 17 = .ok (.aload_n 0, 1) := by decide +kernel
theorem dX7_passDays_18 : decode cX7_passDays 18 = .ok (.invokevirtual 142, 3) := by decide +kernel
theorem dX7_passDays_21 : decode cX7_passDays 21 = .ok (.iconst 0, 1) := by decide +kernel
theorem dX7_passDays_22 : decode cX7_passDays 22 = .ok (.istore_n 3, 1) := by decide +kernel
theorem dX7_passDays_23 : decode cX7_passDays 23 = .ok (.iload_n 3, 1) := by decide +kernel
theorem dX7_passDays_24 : decode cX7_passDays 24 = .ok (.aload_n 0, 1) := by decide +kernel
theorem dX7_passDays_25 : decode cX7_passDays 25 = .ok (.getfield 39, 3) := by decide +kernel
theorem dX7_passDays_28 : decode cX7_passDays 28 = .ok (.if_icmp .ge 14, 3) := by decide +kernel
theorem dX7_passDays_31 : decode cX7_passDays 31 = .ok (.aload_n 0, 1) := by decide +kernel
theorem dX7_passDays_32 : decode cX7_passDays 32 = .ok (.iload_n 3, 1) := by decide +kernel
theorem dX7_passDays_33 : decode cX7_passDays 33 = .ok (.invokevirtual 145, 3) := by decide +kernel
theorem dX7_passDays_36 : decode cX7_passDays 36 = .ok (.iinc 3 1, 3) := by decide +kernel
theorem dX7_passDays_39 : decode cX7_passDays 39 = .ok (.goto (-16), 3) := by decide +kernel
theorem dX7_passDays_42 : decode cX7_passDays 42 = .ok (.iinc 2 1, 3) := by decide +kernel
theorem dX7_passDays_45 : decode cX7_passDays 45 = .ok (.goto (-43), 3) := by decide +kernel
theorem dX7_passDays_48 : decode cX7_passDays 48 = .ok (.return_, 1) := by decide +kernel
theorem dX7_haveFirstLetters_0 : decode cX7_haveFirstLetters 0 = .ok (.iconst 3, 1) := by decide +kernel
theorem dX7_haveFirstLetters_1 : decode cX7_haveFirstLetters 1 = .ok (.aload_n 0, 1) := by decide +kernel
theorem dX7_haveFirstLetters_2 : decode cX7_haveFirstLetters 2 = .ok (.getfield 31, 3) := by decide +kernel
theorem dX7_haveFirstLetters_5 : decode cX7_haveFirstLetters 5 = .ok (.getfield 101, 3) := by decide +kernel
theorem dX7_haveFirstLetters_8 : decode cX7_haveFirstLetters 8 = .ok (.invokestatic 149, 3) := by decide +kernel
theorem dX7_haveFirstLetters_11 : decode cX7_haveFirstLetters 11 = .ok (.istore_n 1, 1) := by decide +kernel
theorem dX7_haveFirstLetters_12 : decode cX7_haveFirstLetters 12 = .ok (.iconst 0, 1) := by decide +kernel
theorem dX7_haveFirstLetters_13 : decode cX7_haveFirstLetters 13 = .ok (.istore_n 2, 1) := by decide +kernel
theorem dX7_haveFirstLetters_14 : decode cX7_haveFirstLetters 14 = .ok (.iload_n 2, 1) := by decide +kernel
theorem dX7_haveFirstLetters_15 : decode cX7_haveFirstLetters 15 = .ok (.iload_n 1, 1) := by decide +kernel
theorem dX7_haveFirstLetters_16 : decode cX7_haveFirstLetters 16 = .ok (.if_icmp .ge 15, 3) := by decide +kernel
theorem dX7_haveFirstLetters_19 : decode cX7_haveFirstLetters 19 = .ok (.aload_n 0, 1) := by decide +kernel
theorem dX7_haveFirstLetters_20 : decode cX7_haveFirstLetters 20 = .ok (.iload_n 2, 1) := by decide +kernel
theorem dX7_haveFirstLetters_21 : decode cX7_haveFirstLetters 21 = .ok (.invokevirtual 154, 3) := by decide +kernel
theorem dX7_haveFirstLetters_24 : decode cX7_haveFirstLetters 24 = .ok (.pop, 1) := by decide +kernel
theorem dX7_haveFirstLetters_25 : decode cX7_haveFirstLetters 25 = .ok (.iinc 2 1, 3) := by decide +kernel
theorem dX7_haveFirstLetters_28 : decode cX7_haveFirstLetters 28 = .ok (.goto (-14), 3) := by decide +kernel
theorem dX7_haveFirstLetters_31 : decode cX7_haveFirstLetters 31 = .ok (.aload_n 0, 1) := by decide +kernel
theorem dX7_haveFirstLetters_32 : decode cX7_haveFirstLetters 32 = .ok (.getfield 31, 3) := by decide +kernel
theorem dX7_haveFirstLetters_35 : decode cX7_haveFirstLetters 35 = .ok (.iload_n 1, 1) := by decide +kernel
theorem dX7_haveFirstLetters_36 : decode cX7_haveFirstLetters 36 = .ok (.invokevirtual 157, 3) := by decide +kernel
theorem dX7_haveFirstLetters_39 : decode cX7_haveFirstLetters 39 = .ok (.return_, 1) := by decide +kernel
theorem dX7_haveWholeBag_0 : decode cX7_haveWholeBag 0 = .ok (.iconst 0, 1) := by decide +kernel
theorem dX7_haveWholeBag_1 : decode cX7_haveWholeBag 1 = .ok (.istore_n 1, 1) := by decide +kernel
theorem dX7_haveWholeBag_2 : decode cX7_haveWholeBag 2 = .ok (.iconst 0, 1) := by decide +kernel
theorem dX7_haveWholeBag_3 : decode cX7_haveWholeBag 3 = .ok (.istore_n 2, 1) := by decide +kernel
theorem dX7_haveWholeBag_4 : decode cX7_haveWholeBag 4 = .ok (.iload_n 2, 1) := by decide +kernel
theorem dX7_haveWholeBag_5 : decode cX7_haveWholeBag 5 = .ok (.aload_n 0, 1) := by decide +kernel
theorem dX7_haveWholeBag_6 : decode cX7_haveWholeBag 6 = .ok (.getfield 31, 3) := by decide +kernel
theorem dX7_haveWholeBag_9 : decode cX7_haveWholeBag 9 = .ok (.getfield 101, 3) := by decide +kernel
theorem dX7_haveWholeBag_12 : decode cX7_haveWholeBag 12 = .ok (.if_icmp .ge 20, 3) := by decide +kernel
theorem dX7_haveWholeBag_15 : decode cX7_haveWholeBag 15 = .ok (.aload_n 0, 1) := by decide +kernel
theorem dX7_haveWholeBag_16 : decode cX7_haveWholeBag 16 = .ok (.iload_n 2, 1) := by decide +kernel
theorem dX7_haveWholeBag_17 : decode cX7_haveWholeBag 17 = .ok (.invokevirtual 154, 3) := by decide +kernel
theorem dX7_haveWholeBag_20 : decode cX7_haveWholeBag 20 = .ok (.ifCond .ne 6, 3) := by decide +kernel
theorem dX7_haveWholeBag_23 : decode cX7_haveWholeBag 23 = .ok (.iinc 1 1, 3) := by decide +kernel
theorem dX7_haveWholeBag_26 : decode cX7_haveWholeBag 26 = .ok (.iinc 2 1, 3) := by decide +kernel
theorem dX7_haveWholeBag_29 : decode cX7_haveWholeBag 29 = .ok (.goto (-25), 3) := by decide +kernel
theorem dX7_haveWholeBag_32 : decode cX7_haveWholeBag 32 = .ok (.iload_n 1, 1) := by decide +kernel
theorem dX7_haveWholeBag_33 : decode cX7_haveWholeBag 33 = .ok (.ireturn, 1) := by decide +kernel
theorem dX7_haveLetter_0 : decode cX7_haveLetter 0 = .ok (.aload_n 0, 1) := by decide +kernel
theorem dX7_haveLetter_1 : decode cX7_haveLetter 1 = .ok (.getfield 31, 3) := by decide +kernel
theorem dX7_haveLetter_4 : decode cX7_haveLetter 4 = .ok (.getfield 160, 3) := by decide +kernel
theorem dX7_haveLetter_7 : decode cX7_haveLetter 7 = .ok (.iload_n 1, 1) := by decide +kernel
theorem dX7_haveLetter_8 : decode cX7_haveLetter 8 = .ok (.iaload, 1) := by decide +kernel
theorem dX7_haveLetter_9 : decode cX7_haveLetter 9 = .ok (.istore_n 2, 1) := by decide +kernel
theorem dX7_haveLetter_10 : decode cX7_haveLetter 10 = .ok (.aload_n 0, 1) := by decide +kernel
theorem dX7_haveLetter_11 : decode cX7_haveLetter 11 = .ok (.getfield 31, 3) := by decide +kernel
theorem dX7_haveLetter_14 : decode cX7_haveLetter 14 = .ok (.getfield 163, 3) := by decide +kernel
theorem dX7_haveLetter_17 : decode cX7_haveLetter 17 = .ok (.iload_n 1, 1) := by decide +kernel
theorem dX7_haveLetter_18 : decode cX7_haveLetter 18 = .ok (.iaload, 1) := by decide +kernel
theorem dX7_haveLetter_19 : decode cX7_haveLetter 19 = .ok (.istore_n 3, 1) := by decide +kernel
theorem dX7_haveLetter_20 : decode cX7_haveLetter 20 = .ok (.aload_n 0, 1) := by decide +kernel
theorem dX7_haveLetter_21 : decode cX7_haveLetter 21 = .ok (.getfield 31, 3) := by decide +kernel
theorem dX7_haveLetter_24 : decode cX7_haveLetter 24 = .ok (.getfield 166, 3) := by decide +kernel
theorem dX7_haveLetter_27 : decode cX7_haveLetter 27 = .ok (.iload_n 1, 1) := by decide +kernel
theorem dX7_haveLetter_28 : decode cX7_haveLetter 28 = .ok (.laload, 1) := by decide +kernel
theorem dX7_haveLetter_29 : decode cX7_haveLetter 29 = .ok (.lstore 4, 2) := by decide +kernel
theorem dX7_haveLetter_31 : decode cX7_haveLetter 31 = .ok (.iload_n 3, 1) := by decide +kernel
theorem dX7_haveLetter_32 : decode cX7_haveLetter 32 = .ok (.ifCond .eq 15, 3) := by decide +kernel
theorem dX7_haveLetter_35 : decode cX7_haveLetter 35 = .ok (.aload_n 0, 1) := by decide +kernel
theorem dX7_haveLetter_36 : decode cX7_haveLetter 36 = .ok (.getfield 75, 3) := by decide +kernel
theorem dX7_haveLetter_39 : decode cX7_haveLetter 39 = .ok (.ifCond .eq 12, 3) := by decide +kernel
theorem dX7_haveLetter_42 : decode cX7_haveLetter 42 = .ok (.iload_n 3, 1) := by decide +kernel
theorem dX7_haveLetter_43 : decode cX7_haveLetter 43 = .ok (.iconst 5, 1) := by decide +kernel
theorem dX7_haveLetter_44 : decode cX7_haveLetter 44 = .ok (.if_icmp .ne 7, 3) := by decide +kernel
theorem dX7_haveLetter_47 : decode cX7_haveLetter 47 = .ok (.iconst 1, 1) := by decide +kernel
theorem dX7_haveLetter_48 : decode cX7_haveLetter 48 = .ok (.goto 4, 3) := by decide +kernel
theorem dX7_haveLetter_51 : decode cX7_haveLetter 51 = .ok (.iconst 0, 1) := by decide +kernel
theorem dX7_haveLetter_52 : decode cX7_haveLetter 52 = .ok (.istore 6, 2) := by decide +kernel
theorem dX7_haveLetter_54 : decode cX7_haveLetter 54 = .ok (.iload 6, 2) := by decide +kernel
theorem dX7_haveLetter_56 : decode cX7_haveLetter 56 = .ok (.ifCond .ne 52, 3) := by decide +kernel
theorem dX7_haveLetter_59 : decode cX7_haveLetter 59 = .ok (.aload_n 0, 1) := by decide +kernel
theorem dX7_haveLetter_60 : decode cX7_haveLetter 60 = .ok (.dup, 1) := by decide +kernel
theorem dX7_haveLetter_61 : decode cX7_haveLetter 61 = .ok (.getfield 52, 3) := by decide +kernel
theorem dX7_haveLetter_64 : decode cX7_haveLetter 64 = .ok (.lload 4, 2) := by decide +kernel
theorem dX7_haveLetter_66 : decode cX7_haveLetter 66 = .ok (.lor, 1) := by decide +kernel
theorem dX7_haveLetter_67 : decode cX7_haveLetter 67 = .ok (.putfield 52, 3) := by decide +kernel
theorem dX7_haveLetter_70 : decode cX7_haveLetter 70 = .ok (.aload_n 0, 1) := by decide +kernel
theorem dX7_haveLetter_71 : decode cX7_haveLetter 71 = .ok (.getfield 71, 3) := by decide +kernel
theorem dX7_haveLetter_74 : decode cX7_haveLetter 74 = .ok (.ifCond .ne 34, 3) := by decide +kernel
theorem dX7_haveLetter_77 : decode cX7_haveLetter 77 = .ok (.iload_n 3, 1) := by decide +kernel
theorem dX7_haveLetter_78 : decode cX7_haveLetter 78 = .ok (.aload_n 0, 1) := by decide +kernel
theorem dX7_haveLetter_79 : decode cX7_haveLetter 79 = .ok (.getfield 31, 3) := by decide +kernel
theorem dX7_haveLetter_82 : decode cX7_haveLetter 82 = .ok (.getfield 169, 3) := by decide +kernel
theorem dX7_haveLetter_85 : decode cX7_haveLetter 85 = .ok (.iload_n 1, 1) := by decide +kernel
theorem dX7_haveLetter_86 : decode cX7_haveLetter 86 = .ok (.iaload, 1) := by decide +kernel
theorem dX7_haveLetter_87 : decode cX7_haveLetter 87 = .ok (.iadd, 1) := by decide +kernel
theorem dX7_haveLetter_88 : decode cX7_haveLetter 88 = .ok (.aload_n 0, 1) := by decide +kernel
theorem dX7_haveLetter_89 : decode cX7_haveLetter 89 = .ok (.getfield 35, 3) := by decide +kernel
theorem dX7_haveLetter_92 : decode cX7_haveLetter 92 = .ok (.if_icmp .gt 16, 3) := by decide +kernel
theorem dX7_haveLetter_95 : decode cX7_haveLetter 95 = .ok (.aload_n 0, 1) := by decide +kernel
theorem dX7_haveLetter_96 : decode cX7_haveLetter 96 = .ok (.lload 4, 2) := by decide +kernel
theorem dX7_haveLetter_98 : decode cX7_haveLetter 98 = .ok (.aload_n 0, 1) := by decide +kernel
theorem dX7_haveLetter_99 : decode cX7_haveLetter 99 = .ok (.iload_n 2, 1) := by decide +kernel
theorem dX7_haveLetter_100 : decode cX7_haveLetter 100 = .ok (.invokevirtual 112, 3) := by decide +kernel
theorem dX7_haveLetter_103 : decode cX7_haveLetter 103 = .ok (.invokevirtual 172, 3) := by decide +kernel
theorem dX7_haveLetter_106 : decode cX7_haveLetter 106 = .ok (.lstore 4, 2) := by decide +kernel
theorem dX7_haveLetter_108 : decode cX7_haveLetter 108 = .ok (.lload 4, 2) := by decide +kernel
theorem dX7_haveLetter_110 : decode cX7_haveLetter 110 = .ok (.lconst 0, 1) := by decide +kernel
theorem dX7_haveLetter_111 : decode cX7_haveLetter 111 = .ok (.lcmp, 1) := by decide +kernel
theorem dX7_haveLetter_112 : decode cX7_haveLetter 112 = .ok (.ifCond .ne 21, 3) := by decide +kernel
theorem dX7_haveLetter_115 : decode cX7_haveLetter 115 = .ok (.aload_n 0, 1) := by decide +kernel
theorem dX7_haveLetter_116 : decode cX7_haveLetter 116 = .ok (.sipush 999, 3) := by decide +kernel
theorem dX7_haveLetter_119 : decode cX7_haveLetter 119 = .ok (.aload_n 0, 1) := by decide +kernel
theorem dX7_haveLetter_120 : decode cX7_haveLetter 120 = .ok (.getfield 59, 3) := by decide +kernel
theorem dX7_haveLetter_123 : decode cX7_haveLetter 123 = .ok (.iconst 1, 1) := by decide +kernel
theorem dX7_haveLetter_124 : decode cX7_haveLetter 124 = .ok (.iadd, 1) := by decide +kernel
theorem dX7_haveLetter_125 : decode cX7_haveLetter 125 = .ok (.invokestatic 149, 3) := by decide +kernel
theorem dX7_haveLetter_128 : decode cX7_haveLetter 128 = .ok (.putfield 59, 3) := by decide +kernel
theorem dX7_haveLetter_131 : decode cX7_haveLetter 131 = .ok (.iconst 0, 1) := by decide +kernel
theorem dX7_haveLetter_132 : decode cX7_haveLetter 132 = .ok (.ireturn, 1) := by decide +kernel
theorem dX7_haveLetter_133 : decode cX7_haveLetter 133 = .ok (.aload_n 0, 1) := by decide +kernel
theorem dX7_haveLetter_134 : decode cX7_haveLetter 134 = .ok (.iload_n 2, 1) := by decide +kernel
theorem dX7_haveLetter_135 : decode cX7_haveLetter 135 = .ok (.lload 4, 2) := by decide +kernel
theorem dX7_haveLetter_137 : decode cX7_haveLetter 137 = .ok (.invokevirtual 176, 3) := by decide +kernel
theorem dX7_haveLetter_140 : decode cX7_haveLetter 140 = .ok (.iconst 1, 1) := by decide +kernel
theorem dX7_haveLetter_141 : decode cX7_haveLetter 141 = .ok (.ireturn, 1) := by decide +kernel
theorem dX7_afterRubbing_0 : decode cX7_afterRubbing 0 = .ok (.lload_n 1, 1) := by decide +kernel
theorem dX7_afterRubbing_1 : decode cX7_afterRubbing 1 = .ok (.aload_n 0, 1) := by decide +kernel
theorem dX7_afterRubbing_2 : decode cX7_afterRubbing 2 = .ok (.getfield 56, 3) := by decide +kernel
theorem dX7_afterRubbing_5 : decode cX7_afterRubbing 5 = .ok (.land, 1) := by decide +kernel
theorem dX7_afterRubbing_6 : decode cX7_afterRubbing 6 = .ok (.lstore 5, 2) := by decide +kernel
theorem dX7_afterRubbing_8 : decode cX7_afterRubbing 8 = .ok (.aload_n 0, 1) := by decide +kernel
theorem dX7_afterRubbing_9 : decode cX7_afterRubbing 9 = .ok (.sipush 9999, 3) := by decide +kernel
theorem dX7_afterRubbing_12 : decode cX7_afterRubbing 12 = .ok (.aload_n 0, 1) := by decide +kernel
theorem dX7_afterRubbing_13 : decode cX7_afterRubbing 13 = .ok (.getfield 62, 3) := by decide +kernel
theorem dX7_afterRubbing_16 : decode cX7_afterRubbing 16 = .ok (.lload 5, 2) := by decide +kernel
theorem dX7_afterRubbing_18 : decode cX7_afterRubbing 18 = .ok (.invokestatic 78, 3) := by decide +kernel
theorem dX7_afterRubbing_21 : decode cX7_afterRubbing 21 = .ok (.iadd, 1) := by decide +kernel
theorem dX7_afterRubbing_22 : decode cX7_afterRubbing 22 = .ok (.invokestatic 149, 3) := by decide +kernel
theorem dX7_afterRubbing_25 : decode cX7_afterRubbing 25 = .ok (.putfield 62, 3) := by decide +kernel
theorem dX7_afterRubbing_28 : decode cX7_afterRubbing 28 = .ok (.lload 5, 2) := by decide +kernel
theorem dX7_afterRubbing_30 : decode cX7_afterRubbing 30 = .ok (.lload_n 1, 1) := by decide +kernel
theorem dX7_afterRubbing_31 : decode cX7_afterRubbing 31 = .ok (.lcmp, 1) := by decide +kernel
theorem dX7_afterRubbing_32 : decode cX7_afterRubbing 32 = .ok (.ifCond .eq 12, 3) := by decide +kernel
theorem dX7_afterRubbing_35 : decode cX7_afterRubbing 35 = .ok (.lload_n 1, 1) := by decide +kernel
theorem dX7_afterRubbing_36 : decode cX7_afterRubbing 36 = .ok (.lload 5, 2) := by decide +kernel
theorem dX7_afterRubbing_38 : decode cX7_afterRubbing 38 = .ok (.ldc2_w 180, 3) := by decide +kernel
theorem dX7_afterRubbing_41 : decode cX7_afterRubbing 41 = .ok (.lxor, 1) := by decide +kernel
theorem dX7_afterRubbing_42 : decode cX7_afterRubbing 42 = .ok (.land, 1) := by decide +kernel
theorem dX7_afterRubbing_43 : decode cX7_afterRubbing 43 = .ok (.lreturn, 1) := by decide +kernel
theorem dX7_afterRubbing_44 : decode cX7_afterRubbing 44 = .ok (.aload_n 0, 1) := by decide +kernel
theorem dX7_afterRubbing_45 : decode cX7_afterRubbing 45 = .ok (.getfield 52, 3) := by decide +kernel
theorem dX7_afterRubbing_48 : decode cX7_afterRubbing 48 = .ok (.aload_n 0, 1) := by decide +kernel
theorem dX7_afterRubbing_49 : decode cX7_afterRubbing 49 = .ok (.getfield 56, 3) := by decide +kernel
theorem dX7_afterRubbing_52 : decode cX7_afterRubbing 52 = .ok (.ldc2_w 180, 3) := by decide +kernel
theorem dX7_afterRubbing_55 : decode cX7_afterRubbing 55 = .ok (.lxor, 1) := by decide +kernel
theorem dX7_afterRubbing_56 : decode cX7_afterRubbing 56 = .ok (.land, 1) := by decide +kernel
theorem dX7_afterRubbing_57 : decode cX7_afterRubbing 57 = .ok (.lload_n 3, 1) := by decide +kernel
theorem dX7_afterRubbing_58 : decode cX7_afterRubbing 58 = .ok (.ldc2_w 180, 3) := by decide +kernel
theorem dX7_afterRubbing_61 : decode cX7_afterRubbing 61 = .ok (.lxor, 1) := by decide +kernel
theorem dX7_afterRubbing_62 : decode cX7_afterRubbing 62 = .ok (.land, 1) := by decide +kernel
theorem dX7_afterRubbing_63 : decode cX7_afterRubbing 63 = .ok (.lstore 7, 2) := by decide +kernel
theorem dX7_afterRubbing_65 : decode cX7_afterRubbing 65 = .ok (.lload 7, 2) := by decide +kernel
theorem dX7_afterRubbing_67 : decode cX7_afterRubbing 67 = .ok (.lload 7, 2) := by decide +kernel
theorem dX7_afterRubbing_69 : decode cX7_afterRubbing 69 = .ok (.lneg, 1) := by decide +kernel
theorem dX7_afterRubbing_70 : decode cX7_afterRubbing 70 = .ok (.land, 1) := by decide +kernel
theorem dX7_afterRubbing_71 : decode cX7_afterRubbing 71 = .ok (.lreturn, 1) := by decide +kernel
theorem dX7_writeIfDue_0 : decode cX7_writeIfDue 0 = .ok (.aload_n 0, 1) := by decide +kernel
theorem dX7_writeIfDue_1 : decode cX7_writeIfDue 1 = .ok (.getfield 9, 3) := by decide +kernel
theorem dX7_writeIfDue_4 : decode cX7_writeIfDue 4 = .ok (.iload_n 1, 1) := by decide +kernel
theorem dX7_writeIfDue_5 : decode cX7_writeIfDue 5 = .ok (.iaload, 1) := by decide +kernel
theorem dX7_writeIfDue_6 : decode cX7_writeIfDue 6 = .ok (.istore_n 2, 1) := by decide +kernel
theorem dX7_writeIfDue_7 : decode cX7_writeIfDue 7 = .ok (.aload_n 0, 1) := by decide +kernel
theorem dX7_writeIfDue_8 : decode cX7_writeIfDue 8 = .ok (.getfield 15, 3) := by decide +kernel
theorem dX7_writeIfDue_11 : decode cX7_writeIfDue 11 = .ok (.iload_n 1, 1) := by decide +kernel
theorem dX7_writeIfDue_12 : decode cX7_writeIfDue 12 = .ok (.iaload, 1) := by decide +kernel
theorem dX7_writeIfDue_13 : decode cX7_writeIfDue 13 = .ok (.istore_n 3, 1) := by decide +kernel
theorem dX7_writeIfDue_14 : decode cX7_writeIfDue 14 = .ok (.iload_n 2, 1) := by decide +kernel
theorem dX7_writeIfDue_15 : decode cX7_writeIfDue 15 = .ok (.iload_n 3, 1) := by decide +kernel
theorem dX7_writeIfDue_16 : decode cX7_writeIfDue 16 = .ok (.invokestatic 94, 3) := by decide +kernel
theorem dX7_writeIfDue_19 : decode cX7_writeIfDue 19 = .ok (.istore 4, 2) := by decide +kernel
theorem dX7_writeIfDue_21 : decode cX7_writeIfDue 21 = .ok (.iload 4, 2) := by decide +kernel
theorem dX7_writeIfDue_23 : decode cX7_writeIfDue 23 = .ok (.iconst 1, 1) := by decide +kernel
theorem dX7_writeIfDue_24 : decode cX7_writeIfDue 24 = .ok (.if_icmp .lt 31, 3) := by decide +kernel
theorem dX7_writeIfDue_27 : decode cX7_writeIfDue 27 = .ok (.aload_n 0, 1) := by decide +kernel
theorem dX7_writeIfDue_28 : decode cX7_writeIfDue 28 = .ok (.getfield 65, 3) := by decide +kernel
theorem dX7_writeIfDue_31 : decode cX7_writeIfDue 31 = .ok (.iload 4, 2) := by decide +kernel
theorem dX7_writeIfDue_33 : decode cX7_writeIfDue 33 = .ok (.irem, 1) := by decide +kernel
theorem dX7_writeIfDue_34 : decode cX7_writeIfDue 34 = .ok (.ifCond .ne 21, 3) := by decide +kernel
theorem dX7_writeIfDue_37 : decode cX7_writeIfDue 37 = .ok (.aload_n 0, 1) := by decide +kernel
theorem dX7_writeIfDue_38 : decode cX7_writeIfDue 38 = .ok (.iload_n 1, 1) := by decide +kernel
theorem dX7_writeIfDue_39 : decode cX7_writeIfDue 39 = .ok (.invokevirtual 132, 3) := by decide +kernel
theorem dX7_writeIfDue_42 : decode cX7_writeIfDue 42 = .ok (.ifCond .eq 13, 3) := by decide +kernel
theorem dX7_writeIfDue_45 : decode cX7_writeIfDue 45 = .ok (.aload_n 0, 1) := by decide +kernel
theorem dX7_writeIfDue_46 : decode cX7_writeIfDue 46 = .ok (.getfield 31, 3) := by decide +kernel
theorem dX7_writeIfDue_49 : decode cX7_writeIfDue 49 = .ok (.invokevirtual 182, 3) := by decide +kernel
theorem dX7_writeIfDue_52 : decode cX7_writeIfDue 52 = .ok (.ifCond .eq 4, 3) := by decide +kernel
theorem dX7_writeIfDue_55 : decode cX7_writeIfDue 55 = .ok (.return_, 1) := by decide +kernel
theorem dX7_writeIfDue_56 : decode cX7_writeIfDue 56 = .ok (.aload_n 0, 1) := by decide +kernel
theorem dX7_writeIfDue_57 : decode cX7_writeIfDue 57 = .ok (.getfield 21, 3) := by decide +kernel
theorem dX7_writeIfDue_60 : decode cX7_writeIfDue 60 = .ok (.iload_n 1, 1) := by decide +kernel
theorem dX7_writeIfDue_61 : decode cX7_writeIfDue 61 = .ok (.laload, 1) := by decide +kernel
theorem dX7_writeIfDue_62 : decode cX7_writeIfDue 62 = .ok (.aload_n 0, 1) := by decide +kernel
theorem dX7_writeIfDue_63 : decode cX7_writeIfDue 63 = .ok (.getfield 25, 3) := by decide +kernel
theorem dX7_writeIfDue_66 : decode cX7_writeIfDue 66 = .ok (.iload_n 1, 1) := by decide +kernel
theorem dX7_writeIfDue_67 : decode cX7_writeIfDue 67 = .ok (.laload, 1) := by decide +kernel
theorem dX7_writeIfDue_68 : decode cX7_writeIfDue 68 = .ok (.ldc2_w 180, 3) := by decide +kernel
theorem dX7_writeIfDue_71 : decode cX7_writeIfDue 71 = .ok (.lxor, 1) := by decide +kernel
theorem dX7_writeIfDue_72 : decode cX7_writeIfDue 72 = .ok (.land, 1) := by decide +kernel
theorem dX7_writeIfDue_73 : decode cX7_writeIfDue 73 = .ok (.iload_n 2, 1) := by decide +kernel
theorem dX7_writeIfDue_74 : decode cX7_writeIfDue 74 = .ok (.invokestatic 97, 3) := by decide +kernel
theorem dX7_writeIfDue_77 : decode cX7_writeIfDue 77 = .ok (.iload_n 2, 1) := by decide +kernel
theorem dX7_writeIfDue_78 : decode cX7_writeIfDue 78 = .ok (.invokestatic 186, 3) := by decide +kernel
theorem dX7_writeIfDue_81 : decode cX7_writeIfDue 81 = .ok (.invokestatic 189, 3) := by decide +kernel
theorem dX7_writeIfDue_84 : decode cX7_writeIfDue 84 = .ok (.lstore 5, 2) := by decide +kernel
theorem dX7_writeIfDue_86 : decode cX7_writeIfDue 86 = .ok (.lload 5, 2) := by decide +kernel
theorem dX7_writeIfDue_88 : decode cX7_writeIfDue 88 = .ok (.lconst 0, 1) := by decide +kernel
theorem dX7_writeIfDue_89 : decode cX7_writeIfDue 89 = .ok (.lcmp, 1) := by decide +kernel
theorem dX7_writeIfDue_90 : decode cX7_writeIfDue 90 = .ok (.ifCond .ne 4, 3) := by decide +kernel
theorem dX7_writeIfDue_93 : decode cX7_writeIfDue 93 = .ok (.return_, 1) := by decide +kernel
theorem dX7_writeIfDue_94 : decode cX7_writeIfDue 94 = .ok (.aload_n 0, 1) := by decide +kernel
theorem dX7_writeIfDue_95 : decode cX7_writeIfDue 95 = .ok (.getfield 68, 3) := by decide +kernel
theorem dX7_writeIfDue_98 : decode cX7_writeIfDue 98 = .ok (.iconst 1, 1) := by decide +kernel
theorem dX7_writeIfDue_99 : decode cX7_writeIfDue 99 = .ok (.iload_n 1, 1) := by decide +kernel
theorem dX7_writeIfDue_100 : decode cX7_writeIfDue 100 = .ok (.ishl, 1) := by decide +kernel
theorem dX7_writeIfDue_101 : decode cX7_writeIfDue 101 = .ok (.iand, 1) := by decide +kernel
theorem dX7_writeIfDue_102 : decode cX7_writeIfDue 102 = .ok (.ifCond .eq 7, 3) := by decide +kernel
theorem dX7_writeIfDue_105 : decode cX7_writeIfDue 105 = .ok (.iconst 0, 1) := by decide +kernel
theorem dX7_writeIfDue_106 : decode cX7_writeIfDue 106 = .ok (.goto 12, 3) := by decide +kernel
theorem dX7_writeIfDue_109 : decode cX7_writeIfDue 109 = .ok (.iload_n 2, 1) := by decide +kernel
theorem dX7_writeIfDue_110 : decode cX7_writeIfDue 110 = .ok (.iload_n 3, 1) := by decide +kernel
theorem dX7_writeIfDue_111 : decode cX7_writeIfDue 111 = .ok (.aload_n 0, 1) := by decide +kernel
theorem dX7_writeIfDue_112 : decode cX7_writeIfDue 112 = .ok (.getfield 65, 3) := by decide +kernel
theorem dX7_writeIfDue_115 : decode cX7_writeIfDue 115 = .ok (.invokestatic 84, 3) := by decide +kernel
theorem dX7_writeIfDue_118 : decode cX7_writeIfDue 118 = .ok (.istore 7, 2) := by decide +kernel
theorem dX7_writeIfDue_120 : decode cX7_writeIfDue 120 = .ok (.aload_n 0, 1) := by decide +kernel
theorem dX7_writeIfDue_121 : decode cX7_writeIfDue 121 = .ok (.getfield 31, 3) := by decide +kernel
theorem dX7_writeIfDue_124 : decode cX7_writeIfDue 124 = .ok (.iload_n 1, 1) := by decide +kernel
theorem dX7_writeIfDue_125 : decode cX7_writeIfDue 125 = .ok (.aload_n 0, 1) := by decide +kernel
theorem dX7_writeIfDue_126 : decode cX7_writeIfDue 126 = .ok (.getfield 18, 3) := by decide +kernel
theorem dX7_writeIfDue_129 : decode cX7_writeIfDue 129 = .ok (.iload_n 1, 1) := by decide +kernel
theorem dX7_writeIfDue_130 : decode cX7_writeIfDue 130 = .ok (.iaload, 1) := by decide +kernel
theorem dX7_writeIfDue_131 : decode cX7_writeIfDue 131 = .ok (.iload 7, 2) := by decide +kernel
theorem dX7_writeIfDue_133 : decode cX7_writeIfDue 133 = .ok (.iload_n 2, 1) := by decide +kernel
theorem dX7_writeIfDue_134 : decode cX7_writeIfDue 134 = .ok (.iload_n 3, 1) := by decide +kernel
theorem dX7_writeIfDue_135 : decode cX7_writeIfDue 135 = .ok (.invokestatic 90, 3) := by decide +kernel
theorem dX7_writeIfDue_138 : decode cX7_writeIfDue 138 = .ok (.lload 5, 2) := by decide +kernel
theorem dX7_writeIfDue_140 : decode cX7_writeIfDue 140 = .ok (.invokevirtual 193, 3) := by decide +kernel
theorem dX7_writeIfDue_143 : decode cX7_writeIfDue 143 = .ok (.aload_n 0, 1) := by decide +kernel
theorem dX7_writeIfDue_144 : decode cX7_writeIfDue 144 = .ok (.getfield 25, 3) := by decide +kernel
theorem dX7_writeIfDue_147 : decode cX7_writeIfDue 147 = .ok (.iload_n 1, 1) := by decide +kernel
theorem dX7_writeIfDue_148 : decode cX7_writeIfDue 148 = .ok (.dup2, 1) := by decide +kernel
theorem dX7_writeIfDue_149 : decode cX7_writeIfDue 149 = .ok (.laload, 1) := by decide +kernel
theorem dX7_writeIfDue_150 : decode cX7_writeIfDue 150 = .ok (.lload 5, 2) := by decide +kernel
theorem dX7_writeIfDue_152 : decode cX7_writeIfDue 152 = .ok (.lor, 1) := by decide +kernel
theorem dX7_writeIfDue_153 : decode cX7_writeIfDue 153 = .ok (.lastore, 1) := by decide +kernel
theorem dX7_writeIfDue_154 : decode cX7_writeIfDue 154 = .ok (.return_, 1) := by decide +kernel
theorem dX7_daysUntil_0 : decode cX7_daysUntil 0 = .ok (.iconst 0, 1) := by decide +kernel
theorem dX7_daysUntil_1 : decode cX7_daysUntil 1 = .ok (.istore_n 3, 1) := by decide +kernel
theorem dX7_daysUntil_2 : decode cX7_daysUntil 2 = .ok (.iload_n 3, 1) := by decide +kernel
theorem dX7_daysUntil_3 : decode cX7_daysUntil 3 = .ok (.bipush 60, 2) := by decide +kernel
theorem dX7_daysUntil_5 : decode cX7_daysUntil 5 = .ok (.if_icmp .gt 25, 3) := by decide +kernel
theorem dX7_daysUntil_8 : decode cX7_daysUntil 8 = .ok (.aload_n 0, 1) := by decide +kernel
theorem dX7_daysUntil_9 : decode cX7_daysUntil 9 = .ok (.iload_n 1, 1) := by decide +kernel
theorem dX7_daysUntil_10 : decode cX7_daysUntil 10 = .ok (.iload_n 2, 1) := by decide +kernel
theorem dX7_daysUntil_11 : decode cX7_daysUntil 11 = .ok (.invokevirtual 122, 3) := by decide +kernel
theorem dX7_daysUntil_14 : decode cX7_daysUntil 14 = .ok (.ifCond .eq 5, 3) := by decide +kernel
theorem dX7_daysUntil_17 : decode cX7_daysUntil 17 = .ok (.iload_n 3, 1) := by decide +kernel
theorem dX7_daysUntil_18 : decode cX7_daysUntil 18 = .ok (.ireturn, 1) := by decide +kernel
theorem dX7_daysUntil_19 : decode cX7_daysUntil 19 = .ok (.aload_n 0, 1) := by decide +kernel
theorem dX7_daysUntil_20 : decode cX7_daysUntil 20 = .ok (.iconst 1, 1) := by decide +kernel
theorem dX7_daysUntil_21 : decode cX7_daysUntil 21 = .ok (.invokevirtual 197, 3) := by decide +kernel
theorem dX7_daysUntil_24 : decode cX7_daysUntil 24 = .ok (.iinc 3 1, 3) := by decide +kernel
theorem dX7_daysUntil_27 : decode cX7_daysUntil 27 = .ok (.goto (-25), 3) := by decide +kernel
theorem dX7_daysUntil_30 : decode cX7_daysUntil 30 = .ok (.bipush (-9), 2) := by decide +kernel
theorem dX7_daysUntil_32 : decode cX7_daysUntil 32 = .ok (.ireturn, 1) := by decide +kernel
theorem dX7_exchange_0 : decode cX7_exchange 0 = .ok (.aload_n 0, 1) := by decide +kernel
theorem dX7_exchange_1 : decode cX7_exchange 1 = .ok (.getfield 9, 3) := by decide +kernel
theorem dX7_exchange_4 : decode cX7_exchange 4 = .ok (.iload_n 1, 1) := by decide +kernel
theorem dX7_exchange_5 : decode cX7_exchange 5 = .ok (.iaload, 1) := by decide +kernel
theorem dX7_exchange_6 : decode cX7_exchange 6 = .ok (.istore_n 3, 1) := by decide +kernel
theorem dX7_exchange_7 : decode cX7_exchange 7 = .ok (.aload_n 0, 1) := by decide +kernel
theorem dX7_exchange_8 : decode cX7_exchange 8 = .ok (.getfield 15, 3) := by decide +kernel
theorem dX7_exchange_11 : decode cX7_exchange 11 = .ok (.iload_n 1, 1) := by decide +kernel
theorem dX7_exchange_12 : decode cX7_exchange 12 = .ok (.iaload, 1) := by decide +kernel
theorem dX7_exchange_13 : decode cX7_exchange 13 = .ok (.istore 4, 2) := by decide +kernel
theorem dX7_exchange_15 : decode cX7_exchange 15 = .ok (.aload_n 0, 1) := by decide +kernel
theorem dX7_exchange_16 : decode cX7_exchange 16 = .ok (.getfield 9, 3) := by decide +kernel
theorem dX7_exchange_19 : decode cX7_exchange 19 = .ok (.iload_n 1, 1) := by decide +kernel
theorem dX7_exchange_20 : decode cX7_exchange 20 = .ok (.aload_n 0, 1) := by decide +kernel
theorem dX7_exchange_21 : decode cX7_exchange 21 = .ok (.getfield 9, 3) := by decide +kernel
theorem dX7_exchange_24 : decode cX7_exchange 24 = .ok (.iload_n 2, 1) := by decide +kernel
theorem dX7_exchange_25 : decode cX7_exchange 25 = .ok (.iaload, 1) := by decide +kernel
theorem dX7_exchange_26 : decode cX7_exchange 26 = .ok (.iastore, 1) := by decide +kernel
theorem dX7_exchange_27 : decode cX7_exchange 27 = .ok (.aload_n 0, 1) := by decide +kernel
theorem dX7_exchange_28 : decode cX7_exchange 28 = .ok (.getfield 15, 3) := by decide +kernel
theorem dX7_exchange_31 : decode cX7_exchange 31 = .ok (.iload_n 1, 1) := by decide +kernel
theorem dX7_exchange_32 : decode cX7_exchange 32 = .ok (.aload_n 0, 1) := by decide +kernel
theorem dX7_exchange_33 : decode cX7_exchange 33 = .ok (.getfield 15, 3) := by decide +kernel
theorem dX7_exchange_36 : decode cX7_exchange 36 = .ok (.iload_n 2, 1) := by decide +kernel
theorem dX7_exchange_37 : decode cX7_exchange 37 = .ok (.iaload, 1) := by decide +kernel
theorem dX7_exchange_38 : decode cX7_exchange 38 = .ok (.iastore, 1) := by decide +kernel
theorem dX7_exchange_39 : decode cX7_exchange 39 = .ok (.aload_n 0, 1) := by decide +kernel
theorem dX7_exchange_40 : decode cX7_exchange 40 = .ok (.getfield 9, 3) := by decide +kernel
theorem dX7_exchange_43 : decode cX7_exchange 43 = .ok (.iload_n 2, 1) := by decide +kernel
theorem dX7_exchange_44 : decode cX7_exchange 44 = .ok (.iload_n 3, 1) := by decide +kernel
theorem dX7_exchange_45 : decode cX7_exchange 45 = .ok (.iastore, 1) := by decide +kernel
theorem dX7_exchange_46 : decode cX7_exchange 46 = .ok (.aload_n 0, 1) := by decide +kernel
theorem dX7_exchange_47 : decode cX7_exchange 47 = .ok (.getfield 15, 3) := by decide +kernel
theorem dX7_exchange_50 : decode cX7_exchange 50 = .ok (.iload_n 2, 1) := by decide +kernel
theorem dX7_exchange_51 : decode cX7_exchange 51 = .ok (.iload 4, 2) := by decide +kernel
theorem dX7_exchange_53 : decode cX7_exchange 53 = .ok (.iastore, 1) := by decide +kernel
theorem dX7_exchange_54 : decode cX7_exchange 54 = .ok (.return_, 1) := by decide +kernel
theorem dX8_init_0 : decode cX8_init 0 = .ok (.aload_n 0, 1) := by decide +kernel
theorem dX8_init_1 : decode cX8_init 1 = .ok (.invokespecial 3, 3) := by decide +kernel
theorem dX8_init_4 : decode cX8_init 4 = .ok (.aload_n 0, 1) := by decide +kernel
theorem dX8_init_5 : decode cX8_init 5 = .ok (.new 9, 3) := by decide +kernel
theorem dX8_init_8 : decode cX8_init 8 = .ok (.dup, 1) := by decide +kernel
theorem dX8_init_9 : decode cX8_init 9 = .ok (.invokespecial 11, 3) := by decide +kernel
theorem dX8_init_12 : decode cX8_init 12 = .ok (.putfield 12, 3) := by decide +kernel
theorem dX8_init_15 : decode cX8_init 15 = .ok (.aload_n 0, 1) := by decide +kernel
theorem dX8_init_16 : decode cX8_init 16 = .ok (.new 16, 3) := by decide +kernel
theorem dX8_init_19 : decode cX8_init 19 = .ok (.dup, 1) := by decide +kernel
theorem dX8_init_20 : decode cX8_init 20 = .ok (.invokespecial 18, 3) := by decide +kernel
theorem dX8_init_23 : decode cX8_init 23 = .ok (.putfield 19, 3) := by decide +kernel
theorem dX8_init_26 : decode cX8_init 26 = .ok (.aload_n 0, 1) := by decide +kernel
theorem dX8_init_27 : decode cX8_init 27 = .ok (.bipush 12, 2) := by decide +kernel
theorem dX8_init_29 : decode cX8_init 29 = .ok (.newarray .int, 2) := by decide +kernel
theorem dX8_init_31 : decode cX8_init 31 = .ok (.putfield 23, 3) := by decide +kernel
theorem dX8_init_34 : decode cX8_init 34 = .ok (.aload_n 0, 1) := by decide +kernel
theorem dX8_init_35 : decode cX8_init 35 = .ok (.bipush 6, 2) := by decide +kernel
theorem dX8_init_37 : decode cX8_init 37 = .ok (.newarray .int, 2) := by decide +kernel
theorem dX8_init_39 : decode cX8_init 39 = .ok (.putfield 27, 3) := by decide +kernel
theorem dX8_init_42 : decode cX8_init 42 = .ok (.new 30, 3) := by decide +kernel
theorem dX8_init_45 : decode cX8_init 45 = .ok (.dup, 1) := by decide +kernel
theorem dX8_init_46 : decode cX8_init 46 = .ok (.invokespecial 32, 3) := by decide +kernel
theorem dX8_init_49 : decode cX8_init 49 = .ok (.astore_n 1, 1) := by decide +kernel
theorem dX8_init_50 : decode cX8_init 50 = .ok (.aload_n 0, 1) := by decide +kernel
theorem dX8_init_51 : decode cX8_init 51 = .ok (.aload_n 1, 1) := by decide +kernel
theorem dX8_init_52 : decode cX8_init 52 = .ok (.putfield 33, 3) := by decide +kernel
theorem dX8_init_55 : decode cX8_init 55 = .ok (.aload_n 0, 1) := by decide +kernel
theorem dX8_init_56 : decode cX8_init 56 = .ok (.new 37, 3) := by decide +kernel
theorem dX8_init_59 : decode cX8_init 59 = .ok (.dup, 1) := by decide +kernel
theorem dX8_init_60 : decode cX8_init 60 = .ok (.aload_n 1, 1) := by decide +kernel
theorem dX8_init_61 : decode cX8_init 61 = .ok (.invokespecial 39, 3) := by decide +kernel
theorem dX8_init_64 : decode cX8_init 64 = .ok (.putfield 42, 3) := by decide +kernel
theorem dX8_init_67 : decode cX8_init 67 = .ok (.return_, 1) := by decide +kernel
theorem dX8_feed_0 : decode cX8_feed 0 = .ok (.iconst 0, 1) := by decide +kernel
theorem dX8_feed_1 : decode cX8_feed 1 = .ok (.iload_n 1, 1) := by decide +kernel
theorem dX8_feed_2 : decode cX8_feed 2 = .ok (.ifCond .ge 7, 3) := by decide +kernel
theorem dX8_feed_5 : decode cX8_feed 5 = .ok (.iconst 1, 1) := by decide +kernel
theorem dX8_feed_6 : decode cX8_feed 6 = .ok (.goto 4, 3) := by decide +kernel
theorem dX8_feed_9 : decode cX8_feed 9 = .ok (.iconst 0, 1) := by decide +kernel
theorem dX8_feed_10 : decode cX8_feed 10 = .ok (.iload_n 1, 1) := by decide +kernel
theorem dX8_feed_11 : decode cX8_feed 11 = .ok (.sipush 255, 3) := by decide +kernel
theorem dX8_feed_14 : decode cX8_feed 14 = .ok (.if_icmp .gt 13, 3) := by decide +kernel
theorem dX8_feed_17 : decode cX8_feed 17 = .ok (.aload_n 0, 1) := by decide +kernel
theorem dX8_feed_18 : decode cX8_feed 18 = .ok (.getfield 19, 3) := by decide +kernel
theorem dX8_feed_21 : decode cX8_feed 21 = .ok (.invokevirtual 46, 3) := by decide +kernel
theorem dX8_feed_24 : decode cX8_feed 24 = .ok (.ifCond .eq 7, 3) := by decide +kernel
theorem dX8_feed_27 : decode cX8_feed 27 = .ok (.iconst 1, 1) := by decide +kernel
theorem dX8_feed_28 : decode cX8_feed 28 = .ok (.goto 4, 3) := by decide +kernel
theorem dX8_feed_31 : decode cX8_feed 31 = .ok (.iconst 0, 1) := by decide +kernel
theorem dX8_feed_32 : decode cX8_feed 32 = .ok (.iconst 0, 1) := by decide +kernel
theorem dX8_feed_33 : decode cX8_feed 33 = .ok (.invokestatic 50, 3) := by decide +kernel
theorem dX8_feed_36 : decode cX8_feed 36 = .ok (.istore_n 2, 1) := by decide +kernel
theorem dX8_feed_37 : decode cX8_feed 37 = .ok (.iload_n 2, 1) := by decide +kernel
theorem dX8_feed_38 : decode cX8_feed 38 = .ok (.ifCond .eq 11, 3) := by decide +kernel
theorem dX8_feed_41 : decode cX8_feed 41 = .ok (.aload_n 0, 1) := by decide +kernel
theorem dX8_feed_42 : decode cX8_feed 42 = .ok (.iload_n 2, 1) := by decide +kernel
theorem dX8_feed_43 : decode cX8_feed 43 = .ok (.invokevirtual 54, 3) := by decide +kernel
theorem dX8_feed_46 : decode cX8_feed 46 = .ok (.goto 11, 3) := by decide +kernel
theorem dX8_feed_49 : decode cX8_feed 49 = .ok (.aload_n 0, 1) := by decide +kernel
theorem dX8_feed_50 : decode cX8_feed 50 = .ok (.getfield 19, 3) := by decide +kernel
theorem dX8_feed_53 : decode cX8_feed 53 = .ok (.iload_n 1, 1) := by decide +kernel
theorem dX8_feed_54 : decode cX8_feed 54 = .ok (.invokevirtual 58, 3) := by decide +kernel
theorem dX8_feed_57 : decode cX8_feed 57 = .ok (.ireturn, 1) := by decide +kernel
theorem dX8_post_0 : decode cX8_post 0 = .ok (.aload_n 0, 1) := by decide +kernel
theorem dX8_post_1 : decode cX8_post 1 = .ok (.getfield 19, 3) := by decide +kernel
theorem dX8_post_4 : decode cX8_post 4 = .ok (.aload_n 0, 1) := by decide +kernel
theorem dX8_post_5 : decode cX8_post 5 = .ok (.getfield 42, 3) := by decide +kernel
theorem dX8_post_8 : decode cX8_post 8 = .ok (.invokevirtual 61, 3) := by decide +kernel
theorem dX8_post_11 : decode cX8_post 11 = .ok (.invokevirtual 65, 3) := by decide +kernel
theorem dX8_post_14 : decode cX8_post 14 = .ok (.istore_n 1, 1) := by decide +kernel
theorem dX8_post_15 : decode cX8_post 15 = .ok (.iload_n 1, 1) := by decide +kernel
theorem dX8_post_16 : decode cX8_post 16 = .ok (.ifCond .lt 24, 3) := by decide +kernel
theorem dX8_post_19 : decode cX8_post 19 = .ok (.aload_n 0, 1) := by decide +kernel
theorem dX8_post_20 : decode cX8_post 20 = .ok (.getfield 33, 3) := by decide +kernel
theorem dX8_post_23 : decode cX8_post 23 = .ok (.aload_n 0, 1) := by decide +kernel
theorem dX8_post_24 : decode cX8_post 24 = .ok (.getfield 42, 3) := by decide +kernel
theorem dX8_post_27 : decode cX8_post 27 = .ok (.invokevirtual 69, 3) := by decide +kernel
theorem dX8_post_30 : decode cX8_post 30 = .ok (.invokevirtual 72, 3) := by decide +kernel
theorem dX8_post_33 : decode cX8_post 33 = .ok (.aload_n 0, 1) := by decide +kernel
theorem dX8_post_34 : decode cX8_post 34 = .ok (.getfield 12, 3) := by decide +kernel
theorem dX8_post_37 : decode cX8_post 37 = .ok (.invokevirtual 75, 3) := by decide +kernel
theorem dX8_post_40 : decode cX8_post 40 = .ok (.aload_n 0, 1) := by decide +kernel
theorem dX8_post_41 : decode cX8_post 41 = .ok (.getfield 19, 3) := by decide +kernel
theorem dX8_post_44 : decode cX8_post 44 = .ok (.invokevirtual 78, 3) := by decide +kernel
theorem dX8_post_47 : decode cX8_post 47 = .ok (.iload_n 1, 1) := by decide +kernel
theorem dX8_post_48 : decode cX8_post 48 = .ok (.ireturn, 1) := by decide +kernel
theorem dX8_person_0 : decode cX8_person 0 = .ok (.aload_n 0, 1) := by decide +kernel
theorem dX8_person_1 : decode cX8_person 1 = .ok (.iload_n 1, 1) := by decide +kernel
theorem dX8_person_2 : decode cX8_person 2 = .ok (.invokevirtual 81, 3) := by decide +kernel
theorem dX8_person_5 : decode cX8_person 5 = .ok (.ifCond .ne 7, 3) := by decide +kernel
theorem dX8_person_8 : decode cX8_person 8 = .ok (.iconst 1, 1) := by decide +kernel
theorem dX8_person_9 : decode cX8_person 9 = .ok (.goto 4, 3) := by decide +kernel
theorem dX8_person_12 : decode cX8_person 12 = .ok (.iconst 0, 1) := by decide +kernel
theorem dX8_person_13 : decode cX8_person 13 = .ok (.iconst 0, 1) := by decide +kernel
theorem dX8_person_14 : decode cX8_person 14 = .ok (.iconst 0, 1) := by decide +kernel
theorem dX8_person_15 : decode cX8_person 15 = .ok (.iload_n 2, 1) := by decide +kernel
theorem dX8_person_16 : decode cX8_person 16 = .ok (.ifCond .lt 9, 3) := by decide +kernel
theorem dX8_person_19 : decode cX8_person 19 = .ok (.iload_n 2, 1) := by decide +kernel
theorem dX8_person_20 : decode cX8_person 20 = .ok (.bipush 8, 2) := by decide +kernel
theorem dX8_person_22 : decode cX8_person 22 = .ok (.if_icmp .le 7, 3) := by decide +kernel
theorem dX8_person_25 : decode cX8_person 25 = .ok (.iconst 1, 1) := by decide +kernel
theorem dX8_person_26 : decode cX8_person 26 = .ok (.goto 4, 3) := by decide +kernel
theorem dX8_person_29 : decode cX8_person 29 = .ok (.iconst 0, 1) := by decide +kernel
theorem dX8_person_30 : decode cX8_person 30 = .ok (.invokestatic 50, 3) := by decide +kernel
theorem dX8_person_33 : decode cX8_person 33 = .ok (.istore_n 3, 1) := by decide +kernel
theorem dX8_person_34 : decode cX8_person 34 = .ok (.iload_n 3, 1) := by decide +kernel
theorem dX8_person_35 : decode cX8_person 35 = .ok (.ifCond .eq 11, 3) := by decide +kernel
theorem dX8_person_38 : decode cX8_person 38 = .ok (.aload_n 0, 1) := by decide +kernel
theorem dX8_person_39 : decode cX8_person 39 = .ok (.iload_n 3, 1) := by decide +kernel
theorem dX8_person_40 : decode cX8_person 40 = .ok (.invokevirtual 54, 3) := by decide +kernel
theorem dX8_person_43 : decode cX8_person 43 = .ok (.goto 12, 3) := by decide +kernel
theorem dX8_person_46 : decode cX8_person 46 = .ok (.aload_n 0, 1) := by decide +kernel
theorem dX8_person_47 : decode cX8_person 47 = .ok (.getfield 33, 3) := by decide +kernel
theorem dX8_person_50 : decode cX8_person 50 = .ok (.iload_n 1, 1) := by decide +kernel
theorem dX8_person_51 : decode cX8_person 51 = .ok (.iload_n 2, 1) := by decide +kernel
theorem dX8_person_52 : decode cX8_person 52 = .ok (.invokevirtual 85, 3) := by decide +kernel
theorem dX8_person_55 : decode cX8_person 55 = .ok (.ireturn, 1) := by decide +kernel
theorem dX8_knows_0 : decode cX8_knows 0 = .ok (.aload_n 0, 1) := by decide +kernel
theorem dX8_knows_1 : decode cX8_knows 1 = .ok (.iload_n 1, 1) := by decide +kernel
theorem dX8_knows_2 : decode cX8_knows 2 = .ok (.invokevirtual 89, 3) := by decide +kernel
theorem dX8_knows_5 : decode cX8_knows 5 = .ok (.ifCond .ne 7, 3) := by decide +kernel
theorem dX8_knows_8 : decode cX8_knows 8 = .ok (.iconst 1, 1) := by decide +kernel
theorem dX8_knows_9 : decode cX8_knows 9 = .ok (.goto 4, 3) := by decide +kernel
theorem dX8_knows_12 : decode cX8_knows 12 = .ok (.iconst 0, 1) := by decide +kernel
theorem dX8_knows_13 : decode cX8_knows 13 = .ok (.iload_n 2, 1) := by decide +kernel
theorem dX8_knows_14 : decode cX8_knows 14 = .ok (.ifCond .ge 7, 3) := by decide +kernel
theorem dX8_knows_17 : decode cX8_knows 17 = .ok (.iconst 1, 1) := by decide +kernel
theorem dX8_knows_18 : decode cX8_knows 18 = .ok (.goto 4, 3) := by decide +kernel
theorem dX8_knows_21 : decode cX8_knows 21 = .ok (.iconst 0, 1) := by decide +kernel
theorem dX8_knows_22 : decode cX8_knows 22 = .ok (.iload_n 2, 1) := by decide +kernel
theorem dX8_knows_23 : decode cX8_knows 23 = .ok (.bipush 39, 2) := by decide +kernel
theorem dX8_knows_25 : decode cX8_knows 25 = .ok (.if_icmp .le 7, 3) := by decide +kernel
theorem dX8_knows_28 : decode cX8_knows 28 = .ok (.iconst 1, 1) := by decide +kernel
theorem dX8_knows_29 : decode cX8_knows 29 = .ok (.goto 4, 3) := by decide +kernel
theorem dX8_knows_32 : decode cX8_knows 32 = .ok (.iconst 0, 1) := by decide +kernel
theorem dX8_knows_33 : decode cX8_knows 33 = .ok (.iconst 0, 1) := by decide +kernel
theorem dX8_knows_34 : decode cX8_knows 34 = .ok (.invokestatic 50, 3) := by decide +kernel
theorem dX8_knows_37 : decode cX8_knows 37 = .ok (.istore_n 3, 1) := by decide +kernel
theorem dX8_knows_38 : decode cX8_knows 38 = .ok (.iload_n 3, 1) := by decide +kernel
theorem dX8_knows_39 : decode cX8_knows 39 = .ok (.ifCond .eq 9, 3) := by decide +kernel
theorem dX8_knows_42 : decode cX8_knows 42 = .ok (.aload_n 0, 1) := by decide +kernel
theorem dX8_knows_43 : decode cX8_knows 43 = .ok (.iload_n 3, 1) := by decide +kernel
theorem dX8_knows_44 : decode cX8_knows 44 = .ok (.invokevirtual 54, 3) := by decide +kernel
theorem dX8_knows_47 : decode cX8_knows 47 = .ok (.ireturn, 1) := by decide +kernel
theorem dX8_knows_48 : decode cX8_knows 48 = .ok (.aload_n 0, 1) := by decide +kernel
theorem dX8_knows_49 : decode cX8_knows 49 = .ok (.getfield 33, 3) := by decide +kernel
theorem dX8_knows_52 : decode cX8_knows 52 = .ok (.iload_n 1, 1) := by decide +kernel
theorem dX8_knows_53 : decode cX8_knows 53 = .ok (.iload_n 2, 1) := by decide +kernel
theorem dX8_knows_54 : decode cX8_knows 54 = .ok (.invokevirtual 92, 3) := by decide +kernel
theorem dX8_knows_57 : decode cX8_knows 57 = .ok (.ifCond .eq 7, 3) := by decide +kernel
theorem dX8_knows_60 : decode cX8_knows 60 = .ok (.iconst 1, 1) := by decide +kernel
theorem dX8_knows_61 : decode cX8_knows 61 = .ok (.goto 4, 3) := by decide +kernel
theorem dX8_knows_64 : decode cX8_knows 64 = .ok (.iconst 0, 1) := by decide +kernel
theorem dX8_knows_65 : decode cX8_knows 65 = .ok (.ireturn, 1) := by decide +kernel
theorem dX8_above_0 : decode cX8_above 0 = .ok (.aload_n 0, 1) := by decide +kernel
theorem dX8_above_1 : decode cX8_above 1 = .ok (.iload_n 1, 1) := by decide +kernel
theorem dX8_above_2 : decode cX8_above 2 = .ok (.invokevirtual 89, 3) := by decide +kernel
theorem dX8_above_5 : decode cX8_above 5 = .ok (.ifCond .ne 7, 3) := by decide +kernel
theorem dX8_above_8 : decode cX8_above 8 = .ok (.iconst 1, 1) := by decide +kernel
theorem dX8_above_9 : decode cX8_above 9 = .ok (.goto 4, 3) := by decide +kernel
theorem dX8_above_12 : decode cX8_above 12 = .ok (.iconst 0, 1) := by decide +kernel
theorem dX8_above_13 : decode cX8_above 13 = .ok (.iload_n 2, 1) := by decide +kernel
theorem dX8_above_14 : decode cX8_above 14 = .ok (.ifCond .ge 7, 3) := by decide +kernel
theorem dX8_above_17 : decode cX8_above 17 = .ok (.iconst 1, 1) := by decide +kernel
theorem dX8_above_18 : decode cX8_above 18 = .ok (.goto 4, 3) := by decide +kernel
theorem dX8_above_21 : decode cX8_above 21 = .ok (.iconst 0, 1) := by decide +kernel
theorem dX8_above_22 : decode cX8_above 22 = .ok (.iload_n 2, 1) := by decide +kernel
theorem dX8_above_23 : decode cX8_above 23 = .ok (.bipush 39, 2) := by decide +kernel
theorem dX8_above_25 : decode cX8_above 25 = .ok (.if_icmp .le 7, 3) := by decide +kernel
theorem dX8_above_28 : decode cX8_above 28 = .ok (.iconst 1, 1) := by decide +kernel
theorem dX8_above_29 : decode cX8_above 29 = .ok (.goto 4, 3) := by decide +kernel
theorem dX8_above_32 : decode cX8_above 32 = .ok (.iconst 0, 1) := by decide +kernel
theorem dX8_above_33 : decode cX8_above 33 = .ok (.iconst 0, 1) := by decide +kernel
theorem dX8_above_34 : decode cX8_above 34 = .ok (.invokestatic 50, 3) := by decide +kernel
theorem dX8_above_37 : decode cX8_above 37 = .ok (.istore_n 3, 1) := by decide +kernel
theorem dX8_above_38 : decode cX8_above 38 = .ok (.iload_n 3, 1) := by decide +kernel
theorem dX8_above_39 : decode cX8_above 39 = .ok (.ifCond .eq 11, 3) := by decide +kernel
theorem dX8_above_42 : decode cX8_above 42 = .ok (.aload_n 0, 1) := by decide +kernel
theorem dX8_above_43 : decode cX8_above 43 = .ok (.iload_n 3, 1) := by decide +kernel
theorem dX8_above_44 : decode cX8_above 44 = .ok (.invokevirtual 54, 3) := by decide +kernel
theorem dX8_above_47 : decode cX8_above 47 = .ok (.goto 15, 3) := by decide +kernel
theorem dX8_above_50 : decode cX8_above 50 = .ok (.aload_n 0, 1) := by decide +kernel
theorem dX8_above_51 : decode cX8_above 51 = .ok (.getfield 33, 3) := by decide +kernel
theorem dX8_above_54 : decode cX8_above 54 = .ok (.iload_n 1, 1) := by decide +kernel
theorem dX8_above_55 : decode cX8_above 55 = .ok (.invokevirtual 96, 3) := by decide +kernel
theorem dX8_above_58 : decode cX8_above 58 = .ok (.iload_n 2, 1) := by decide +kernel
theorem dX8_above_59 : decode cX8_above 59 = .ok (.invokestatic 100, 3) := by decide +kernel
theorem dX8_above_62 : decode cX8_above 62 = .ok (.ireturn, 1) := by decide +kernel
theorem dX8_letter_0 : decode cX8_letter 0 = .ok (.aload_n 0, 1) := by decide +kernel
theorem dX8_letter_1 : decode cX8_letter 1 = .ok (.iload_n 1, 1) := by decide +kernel
theorem dX8_letter_2 : decode cX8_letter 2 = .ok (.invokevirtual 106, 3) := by decide +kernel
theorem dX8_letter_5 : decode cX8_letter 5 = .ok (.ifCond .ne 7, 3) := by decide +kernel
theorem dX8_letter_8 : decode cX8_letter 8 = .ok (.iconst 1, 1) := by decide +kernel
theorem dX8_letter_9 : decode cX8_letter 9 = .ok (.goto 4, 3) := by decide +kernel
theorem dX8_letter_12 : decode cX8_letter 12 = .ok (.iconst 0, 1) := by decide +kernel
theorem dX8_letter_13 : decode cX8_letter 13 = .ok (.iconst 0, 1) := by decide +kernel
theorem dX8_letter_14 : decode cX8_letter 14 = .ok (.iconst 0, 1) := by decide +kernel
theorem dX8_letter_15 : decode cX8_letter 15 = .ok (.iload_n 2, 1) := by decide +kernel
theorem dX8_letter_16 : decode cX8_letter 16 = .ok (.ifCond .lt 9, 3) := by decide +kernel
theorem dX8_letter_19 : decode cX8_letter 19 = .ok (.iload_n 2, 1) := by decide +kernel
theorem dX8_letter_20 : decode cX8_letter 20 = .ok (.bipush 6, 2) := by decide +kernel
theorem dX8_letter_22 : decode cX8_letter 22 = .ok (.if_icmp .le 7, 3) := by decide +kernel
theorem dX8_letter_25 : decode cX8_letter 25 = .ok (.iconst 1, 1) := by decide +kernel
theorem dX8_letter_26 : decode cX8_letter 26 = .ok (.goto 4, 3) := by decide +kernel
theorem dX8_letter_29 : decode cX8_letter 29 = .ok (.iconst 0, 1) := by decide +kernel
theorem dX8_letter_30 : decode cX8_letter 30 = .ok (.invokestatic 50, 3) := by decide +kernel
theorem dX8_letter_33 : decode cX8_letter 33 = .ok (.istore_n 3, 1) := by decide +kernel
theorem dX8_letter_34 : decode cX8_letter 34 = .ok (.iload_n 3, 1) := by decide +kernel
theorem dX8_letter_35 : decode cX8_letter 35 = .ok (.ifCond .eq 11, 3) := by decide +kernel
theorem dX8_letter_38 : decode cX8_letter 38 = .ok (.aload_n 0, 1) := by decide +kernel
theorem dX8_letter_39 : decode cX8_letter 39 = .ok (.iload_n 3, 1) := by decide +kernel
theorem dX8_letter_40 : decode cX8_letter 40 = .ok (.invokevirtual 54, 3) := by decide +kernel
theorem dX8_letter_43 : decode cX8_letter 43 = .ok (.goto 15, 3) := by decide +kernel
theorem dX8_letter_46 : decode cX8_letter 46 = .ok (.aload_n 0, 1) := by decide +kernel
theorem dX8_letter_47 : decode cX8_letter 47 = .ok (.getfield 33, 3) := by decide +kernel
theorem dX8_letter_50 : decode cX8_letter 50 = .ok (.getfield 109, 3) := by decide +kernel
theorem dX8_letter_53 : decode cX8_letter 53 = .ok (.iload_n 1, 1) := by decide +kernel
theorem dX8_letter_54 : decode cX8_letter 54 = .ok (.iload_n 2, 1) := by decide +kernel
theorem dX8_letter_55 : decode cX8_letter 55 = .ok (.invokevirtual 113, 3) := by decide +kernel
theorem dX8_letter_58 : decode cX8_letter 58 = .ok (.ireturn, 1) := by decide +kernel
theorem dX8_comes_0 : decode cX8_comes 0 = .ok (.iload_n 1, 1) := by decide +kernel
theorem dX8_comes_1 : decode cX8_comes 1 = .ok (.invokestatic 118, 3) := by decide +kernel
theorem dX8_comes_4 : decode cX8_comes 4 = .ok (.ifCond .ne 10, 3) := by decide +kernel
theorem dX8_comes_7 : decode cX8_comes 7 = .ok (.aload_n 0, 1) := by decide +kernel
theorem dX8_comes_8 : decode cX8_comes 8 = .ok (.bipush (-2), 2) := by decide +kernel
theorem dX8_comes_10 : decode cX8_comes 10 = .ok (.invokevirtual 54, 3) := by decide +kernel
theorem dX8_comes_13 : decode cX8_comes 13 = .ok (.ireturn, 1) := by decide +kernel
theorem dX8_comes_14 : decode cX8_comes 14 = .ok (.iconst 0, 1) := by decide +kernel
theorem dX8_comes_15 : decode cX8_comes 15 = .ok (.iload_n 2, 1) := by decide +kernel
theorem dX8_comes_16 : decode cX8_comes 16 = .ok (.ifCond .ge 7, 3) := by decide +kernel
theorem dX8_comes_19 : decode cX8_comes 19 = .ok (.iconst 1, 1) := by decide +kernel
theorem dX8_comes_20 : decode cX8_comes 20 = .ok (.goto 4, 3) := by decide +kernel
theorem dX8_comes_23 : decode cX8_comes 23 = .ok (.iconst 0, 1) := by decide +kernel
theorem dX8_comes_24 : decode cX8_comes 24 = .ok (.iload_n 2, 1) := by decide +kernel
theorem dX8_comes_25 : decode cX8_comes 25 = .ok (.bipush 9, 2) := by decide +kernel
theorem dX8_comes_27 : decode cX8_comes 27 = .ok (.if_icmp .gt 15, 3) := by decide +kernel
theorem dX8_comes_30 : decode cX8_comes 30 = .ok (.aload_n 0, 1) := by decide +kernel
theorem dX8_comes_31 : decode cX8_comes 31 = .ok (.getfield 33, 3) := by decide +kernel
theorem dX8_comes_34 : decode cX8_comes 34 = .ok (.getfield 123, 3) := by decide +kernel
theorem dX8_comes_37 : decode cX8_comes 37 = .ok (.bipush 6, 2) := by decide +kernel
theorem dX8_comes_39 : decode cX8_comes 39 = .ok (.if_icmp .lt 7, 3) := by decide +kernel
theorem dX8_comes_42 : decode cX8_comes 42 = .ok (.iconst 1, 1) := by decide +kernel
theorem dX8_comes_43 : decode cX8_comes 43 = .ok (.goto 4, 3) := by decide +kernel
theorem dX8_comes_46 : decode cX8_comes 46 = .ok (.iconst 0, 1) := by decide +kernel
theorem dX8_comes_47 : decode cX8_comes 47 = .ok (.iconst 0, 1) := by decide +kernel
theorem dX8_comes_48 : decode cX8_comes 48 = .ok (.invokestatic 50, 3) := by decide +kernel
theorem dX8_comes_51 : decode cX8_comes 51 = .ok (.istore_n 3, 1) := by decide +kernel
theorem dX8_comes_52 : decode cX8_comes 52 = .ok (.iload_n 3, 1) := by decide +kernel
theorem dX8_comes_53 : decode cX8_comes 53 = .ok (.ifCond .eq 9, 3) := by decide +kernel
theorem dX8_comes_56 : decode cX8_comes 56 = .ok (.aload_n 0, 1) := by decide +kernel
theorem dX8_comes_57 : decode cX8_comes 57 = .ok (.iload_n 3, 1) := by decide +kernel
theorem dX8_comes_58 : decode cX8_comes 58 = .ok (.invokevirtual 54, 3) := by decide +kernel
theorem dX8_comes_61 : decode cX8_comes 61 = .ok (.ireturn, 1) := by decide +kernel
theorem dX8_comes_62 : decode cX8_comes 62 = .ok (.aload_n 0, 1) := by decide +kernel
theorem dX8_comes_63 : decode cX8_comes 63 = .ok (.getfield 12, 3) := by decide +kernel
theorem dX8_comes_66 : decode cX8_comes 66 = .ok (.invokevirtual 75, 3) := by decide +kernel
theorem dX8_comes_69 : decode cX8_comes 69 = .ok (.aload_n 0, 1) := by decide +kernel
theorem dX8_comes_70 : decode cX8_comes 70 = .ok (.getfield 33, 3) := by decide +kernel
theorem dX8_comes_73 : decode cX8_comes 73 = .ok (.iload_n 1, 1) := by decide +kernel
theorem dX8_comes_74 : decode cX8_comes 74 = .ok (.iload_n 2, 1) := by decide +kernel
theorem dX8_comes_75 : decode cX8_comes 75 = .ok (.invokevirtual 127, 3) := by decide +kernel
theorem dX8_comes_78 : decode cX8_comes 78 = .ok (.ireturn, 1) := by decide +kernel
theorem dX8_friend_0 : decode cX8_friend 0 = .ok (.aload_n 0, 1) := by decide +kernel
theorem dX8_friend_1 : decode cX8_friend 1 = .ok (.iload_n 1, 1) := by decide +kernel
theorem dX8_friend_2 : decode cX8_friend 2 = .ok (.invokevirtual 81, 3) := by decide +kernel
theorem dX8_friend_5 : decode cX8_friend 5 = .ok (.ifCond .ne 7, 3) := by decide +kernel
theorem dX8_friend_8 : decode cX8_friend 8 = .ok (.iconst 1, 1) := by decide +kernel
theorem dX8_friend_9 : decode cX8_friend 9 = .ok (.goto 4, 3) := by decide +kernel
theorem dX8_friend_12 : decode cX8_friend 12 = .ok (.iconst 0, 1) := by decide +kernel
theorem dX8_friend_13 : decode cX8_friend 13 = .ok (.iload_n 2, 1) := by decide +kernel
theorem dX8_friend_14 : decode cX8_friend 14 = .ok (.ifCond .ge 7, 3) := by decide +kernel
theorem dX8_friend_17 : decode cX8_friend 17 = .ok (.iconst 1, 1) := by decide +kernel
theorem dX8_friend_18 : decode cX8_friend 18 = .ok (.goto 4, 3) := by decide +kernel
theorem dX8_friend_21 : decode cX8_friend 21 = .ok (.iconst 0, 1) := by decide +kernel
theorem dX8_friend_22 : decode cX8_friend 22 = .ok (.iload_n 2, 1) := by decide +kernel
theorem dX8_friend_23 : decode cX8_friend 23 = .ok (.iconst 5, 1) := by decide +kernel
theorem dX8_friend_24 : decode cX8_friend 24 = .ok (.if_icmp .le 7, 3) := by decide +kernel
theorem dX8_friend_27 : decode cX8_friend 27 = .ok (.iconst 1, 1) := by decide +kernel
theorem dX8_friend_28 : decode cX8_friend 28 = .ok (.goto 4, 3) := by decide +kernel
theorem dX8_friend_31 : decode cX8_friend 31 = .ok (.iconst 0, 1) := by decide +kernel
theorem dX8_friend_32 : decode cX8_friend 32 = .ok (.iconst 0, 1) := by decide +kernel
theorem dX8_friend_33 : decode cX8_friend 33 = .ok (.invokestatic 50, 3) := by decide +kernel
theorem dX8_friend_36 : decode cX8_friend 36 = .ok (.istore_n 3, 1) := by decide +kernel
theorem dX8_friend_37 : decode cX8_friend 37 = .ok (.iload_n 3, 1) := by decide +kernel
theorem dX8_friend_38 : decode cX8_friend 38 = .ok (.ifCond .eq 9, 3) := by decide +kernel
theorem dX8_friend_41 : decode cX8_friend 41 = .ok (.aload_n 0, 1) := by decide +kernel
theorem dX8_friend_42 : decode cX8_friend 42 = .ok (.iload_n 3, 1) := by decide +kernel
theorem dX8_friend_43 : decode cX8_friend 43 = .ok (.invokevirtual 54, 3) := by decide +kernel
theorem dX8_friend_46 : decode cX8_friend 46 = .ok (.ireturn, 1) := by decide +kernel
theorem dX8_friend_47 : decode cX8_friend 47 = .ok (.aload_n 0, 1) := by decide +kernel
theorem dX8_friend_48 : decode cX8_friend 48 = .ok (.getfield 12, 3) := by decide +kernel
theorem dX8_friend_51 : decode cX8_friend 51 = .ok (.aload_n 0, 1) := by decide +kernel
theorem dX8_friend_52 : decode cX8_friend 52 = .ok (.getfield 33, 3) := by decide +kernel
theorem dX8_friend_55 : decode cX8_friend 55 = .ok (.invokevirtual 130, 3) := by decide +kernel
theorem dX8_friend_58 : decode cX8_friend 58 = .ok (.aload_n 0, 1) := by decide +kernel
theorem dX8_friend_59 : decode cX8_friend 59 = .ok (.getfield 33, 3) := by decide +kernel
theorem dX8_friend_62 : decode cX8_friend 62 = .ok (.getfield 133, 3) := by decide +kernel
theorem dX8_friend_65 : decode cX8_friend 65 = .ok (.iload_n 1, 1) := by decide +kernel
theorem dX8_friend_66 : decode cX8_friend 66 = .ok (.iaload, 1) := by decide +kernel
theorem dX8_friend_67 : decode cX8_friend 67 = .ok (.istore 4, 2) := by decide +kernel
theorem dX8_friend_69 : decode cX8_friend 69 = .ok (.aload_n 0, 1) := by decide +kernel
theorem dX8_friend_70 : decode cX8_friend 70 = .ok (.getfield 33, 3) := by decide +kernel
theorem dX8_friend_73 : decode cX8_friend 73 = .ok (.getfield 133, 3) := by decide +kernel
theorem dX8_friend_76 : decode cX8_friend 76 = .ok (.iload_n 1, 1) := by decide +kernel
theorem dX8_friend_77 : decode cX8_friend 77 = .ok (.iload_n 2, 1) := by decide +kernel
theorem dX8_friend_78 : decode cX8_friend 78 = .ok (.iastore, 1) := by decide +kernel
theorem dX8_friend_79 : decode cX8_friend 79 = .ok (.iload 4, 2) := by decide +kernel
theorem dX8_friend_81 : decode cX8_friend 81 = .ok (.ireturn, 1) := by decide +kernel
theorem dX8_tells_0 : decode cX8_tells 0 = .ok (.aload_n 0, 1) := by decide +kernel
theorem dX8_tells_1 : decode cX8_tells 1 = .ok (.iload_n 1, 1) := by decide +kernel
theorem dX8_tells_2 : decode cX8_tells 2 = .ok (.invokevirtual 89, 3) := by decide +kernel
theorem dX8_tells_5 : decode cX8_tells 5 = .ok (.ifCond .ne 7, 3) := by decide +kernel
theorem dX8_tells_8 : decode cX8_tells 8 = .ok (.iconst 1, 1) := by decide +kernel
theorem dX8_tells_9 : decode cX8_tells 9 = .ok (.goto 4, 3) := by decide +kernel
theorem dX8_tells_12 : decode cX8_tells 12 = .ok (.iconst 0, 1) := by decide +kernel
theorem dX8_tells_13 : decode cX8_tells 13 = .ok (.iload_n 2, 1) := by decide +kernel
theorem dX8_tells_14 : decode cX8_tells 14 = .ok (.ifCond .ge 7, 3) := by decide +kernel
theorem dX8_tells_17 : decode cX8_tells 17 = .ok (.iconst 1, 1) := by decide +kernel
theorem dX8_tells_18 : decode cX8_tells 18 = .ok (.goto 4, 3) := by decide +kernel
theorem dX8_tells_21 : decode cX8_tells 21 = .ok (.iconst 0, 1) := by decide +kernel
theorem dX8_tells_22 : decode cX8_tells 22 = .ok (.iload_n 2, 1) := by decide +kernel
theorem dX8_tells_23 : decode cX8_tells 23 = .ok (.bipush 39, 2) := by decide +kernel
theorem dX8_tells_25 : decode cX8_tells 25 = .ok (.if_icmp .le 7, 3) := by decide +kernel
theorem dX8_tells_28 : decode cX8_tells 28 = .ok (.iconst 1, 1) := by decide +kernel
theorem dX8_tells_29 : decode cX8_tells 29 = .ok (.goto 4, 3) := by decide +kernel
theorem dX8_tells_32 : decode cX8_tells 32 = .ok (.iconst 0, 1) := by decide +kernel
theorem dX8_tells_33 : decode cX8_tells 33 = .ok (.iconst 0, 1) := by decide +kernel
theorem dX8_tells_34 : decode cX8_tells 34 = .ok (.invokestatic 50, 3) := by decide +kernel
theorem dX8_tells_37 : decode cX8_tells 37 = .ok (.istore_n 3, 1) := by decide +kernel
theorem dX8_tells_38 : decode cX8_tells 38 = .ok (.iload_n 3, 1) := by decide +kernel
theorem dX8_tells_39 : decode cX8_tells 39 = .ok (.ifCond .eq 9, 3) := by decide +kernel
theorem dX8_tells_42 : decode cX8_tells 42 = .ok (.aload_n 0, 1) := by decide +kernel
theorem dX8_tells_43 : decode cX8_tells 43 = .ok (.iload_n 3, 1) := by decide +kernel
theorem dX8_tells_44 : decode cX8_tells 44 = .ok (.invokevirtual 54, 3) := by decide +kernel
theorem dX8_tells_47 : decode cX8_tells 47 = .ok (.ireturn, 1) := by decide +kernel
theorem dX8_tells_48 : decode cX8_tells 48 = .ok (.aload_n 0, 1) := by decide +kernel
theorem dX8_tells_49 : decode cX8_tells 49 = .ok (.getfield 12, 3) := by decide +kernel
theorem dX8_tells_52 : decode cX8_tells 52 = .ok (.aload_n 0, 1) := by decide +kernel
theorem dX8_tells_53 : decode cX8_tells 53 = .ok (.getfield 33, 3) := by decide +kernel
theorem dX8_tells_56 : decode cX8_tells 56 = .ok (.invokevirtual 130, 3) := by decide +kernel
theorem dX8_tells_59 : decode cX8_tells 59 = .ok (.aload_n 0, 1) := by decide +kernel
theorem dX8_tells_60 : decode cX8_tells 60 = .ok (.getfield 33, 3) := by decide +kernel
theorem dX8_tells_63 : decode cX8_tells 63 = .ok (.iload_n 1, 1) := by decide +kernel
theorem dX8_tells_64 : decode cX8_tells 64 = .ok (.iload_n 2, 1) := by decide +kernel
theorem dX8_tells_65 : decode cX8_tells 65 = .ok (.invokevirtual 92, 3) := by decide +kernel
theorem dX8_tells_68 : decode cX8_tells 68 = .ok (.ifCond .ne 7, 3) := by decide +kernel
theorem dX8_tells_71 : decode cX8_tells 71 = .ok (.iconst 1, 1) := by decide +kernel
theorem dX8_tells_72 : decode cX8_tells 72 = .ok (.goto 4, 3) := by decide +kernel
theorem dX8_tells_75 : decode cX8_tells 75 = .ok (.iconst 0, 1) := by decide +kernel
theorem dX8_tells_76 : decode cX8_tells 76 = .ok (.istore 4, 2) := by decide +kernel
theorem dX8_tells_78 : decode cX8_tells 78 = .ok (.aload_n 0, 1) := by decide +kernel
theorem dX8_tells_79 : decode cX8_tells 79 = .ok (.getfield 33, 3) := by decide +kernel
theorem dX8_tells_82 : decode cX8_tells 82 = .ok (.iload_n 1, 1) := by decide +kernel
theorem dX8_tells_83 : decode cX8_tells 83 = .ok (.iload_n 2, 1) := by decide +kernel
theorem dX8_tells_84 : decode cX8_tells 84 = .ok (.invokestatic 136, 3) := by decide +kernel
theorem dX8_tells_87 : decode cX8_tells 87 = .ok (.invokevirtual 139, 3) := by decide +kernel
theorem dX8_tells_90 : decode cX8_tells 90 = .ok (.iload 4, 2) := by decide +kernel
theorem dX8_tells_92 : decode cX8_tells 92 = .ok (.ifCond .eq 7, 3) := by decide +kernel
theorem dX8_tells_95 : decode cX8_tells 95 = .ok (.iconst 1, 1) := by decide +kernel
theorem dX8_tells_96 : decode cX8_tells 96 = .ok (.goto 4, 3) := by decide +kernel
theorem dX8_tells_99 : decode cX8_tells 99 = .ok (.iconst 0, 1) := by decide +kernel
theorem dX8_tells_100 : decode cX8_tells 100 = .ok (.ireturn, 1) := by decide +kernel
theorem dX8_forbids_0 : decode cX8_forbids 0 = .ok (.iconst 0, 1) := by decide +kernel
theorem dX8_forbids_1 : decode cX8_forbids 1 = .ok (.iload_n 1, 1) := by decide +kernel
theorem dX8_forbids_2 : decode cX8_forbids 2 = .ok (.ifCond .ge 7, 3) := by decide +kernel
theorem dX8_forbids_5 : decode cX8_forbids 5 = .ok (.iconst 1, 1) := by decide +kernel
theorem dX8_forbids_6 : decode cX8_forbids 6 = .ok (.goto 4, 3) := by decide +kernel
theorem dX8_forbids_9 : decode cX8_forbids 9 = .ok (.iconst 0, 1) := by decide +kernel
theorem dX8_forbids_10 : decode cX8_forbids 10 = .ok (.iload_n 1, 1) := by decide +kernel
theorem dX8_forbids_11 : decode cX8_forbids 11 = .ok (.bipush 39, 2) := by decide +kernel
theorem dX8_forbids_13 : decode cX8_forbids 13 = .ok (.if_icmp .le 7, 3) := by decide +kernel
theorem dX8_forbids_16 : decode cX8_forbids 16 = .ok (.iconst 1, 1) := by decide +kernel
theorem dX8_forbids_17 : decode cX8_forbids 17 = .ok (.goto 4, 3) := by decide +kernel
theorem dX8_forbids_20 : decode cX8_forbids 20 = .ok (.iconst 0, 1) := by decide +kernel
theorem dX8_forbids_21 : decode cX8_forbids 21 = .ok (.iconst 0, 1) := by decide +kernel
theorem dX8_forbids_22 : decode cX8_forbids 22 = .ok (.invokestatic 50, 3) := by decide +kernel
theorem dX8_forbids_25 : decode cX8_forbids 25 = .ok (.istore_n 2, 1) := by decide +kernel
theorem dX8_forbids_26 : decode cX8_forbids 26 = .ok (.iload_n 2, 1) := by decide +kernel
theorem dX8_forbids_27 : decode cX8_forbids 27 = .ok (.ifCond .eq 9, 3) := by decide +kernel
theorem dX8_forbids_30 : decode cX8_forbids 30 = .ok (.aload_n 0, 1) := by decide +kernel
theorem dX8_forbids_31 : decode cX8_forbids 31 = .ok (.iload_n 2, 1) := by decide +kernel
theorem dX8_forbids_32 : decode cX8_forbids 32 = .ok (.invokevirtual 54, 3) := by decide +kernel
theorem dX8_forbids_35 : decode cX8_forbids 35 = .ok (.ireturn, 1) := by decide +kernel
theorem dX8_forbids_36 : decode cX8_forbids 36 = .ok (.aload_n 0, 1) := by decide +kernel
theorem dX8_forbids_37 : decode cX8_forbids 37 = .ok (.getfield 12, 3) := by decide +kernel
theorem dX8_forbids_40 : decode cX8_forbids 40 = .ok (.aload_n 0, 1) := by decide +kernel
theorem dX8_forbids_41 : decode cX8_forbids 41 = .ok (.getfield 33, 3) := by decide +kernel
theorem dX8_forbids_44 : decode cX8_forbids 44 = .ok (.invokevirtual 130, 3) := by decide +kernel
theorem dX8_forbids_47 : decode cX8_forbids 47 = .ok (.aload_n 0, 1) := by decide +kernel
theorem dX8_forbids_48 : decode cX8_forbids 48 = .ok (.getfield 33, 3) := by decide +kernel
theorem dX8_forbids_51 : decode cX8_forbids 51 = .ok (.dup, 1) := by decide +kernel
theorem dX8_forbids_52 : decode cX8_forbids 52 = .ok (.getfield 143, 3) := by decide +kernel
theorem dX8_forbids_55 : decode cX8_forbids 55 = .ok (.iload_n 1, 1) := by decide +kernel
theorem dX8_forbids_56 : decode cX8_forbids 56 = .ok (.invokestatic 136, 3) := by decide +kernel
theorem dX8_forbids_59 : decode cX8_forbids 59 = .ok (.lxor, 1) := by decide +kernel
theorem dX8_forbids_60 : decode cX8_forbids 60 = .ok (.putfield 143, 3) := by decide +kernel
theorem dX8_forbids_63 : decode cX8_forbids 63 = .ok (.aload_n 0, 1) := by decide +kernel
theorem dX8_forbids_64 : decode cX8_forbids 64 = .ok (.getfield 33, 3) := by decide +kernel
theorem dX8_forbids_67 : decode cX8_forbids 67 = .ok (.getfield 143, 3) := by decide +kernel
theorem dX8_forbids_70 : decode cX8_forbids 70 = .ok (.iload_n 1, 1) := by decide +kernel
theorem dX8_forbids_71 : decode cX8_forbids 71 = .ok (.invokestatic 147, 3) := by decide +kernel
theorem dX8_forbids_74 : decode cX8_forbids 74 = .ok (.ifCond .eq 7, 3) := by decide +kernel
theorem dX8_forbids_77 : decode cX8_forbids 77 = .ok (.iconst 1, 1) := by decide +kernel
theorem dX8_forbids_78 : decode cX8_forbids 78 = .ok (.goto 4, 3) := by decide +kernel
theorem dX8_forbids_81 : decode cX8_forbids 81 = .ok (.iconst 0, 1) := by decide +kernel
theorem dX8_forbids_82 : decode cX8_forbids 82 = .ok (.ireturn, 1) := by decide +kernel
theorem dX8_rubber_0 : decode cX8_rubber 0 = .ok (.iconst 0, 1) := by decide +kernel
theorem dX8_rubber_1 : decode cX8_rubber 1 = .ok (.iload_n 1, 1) := by decide +kernel
theorem dX8_rubber_2 : decode cX8_rubber 2 = .ok (.ifCond .ge 7, 3) := by decide +kernel
theorem dX8_rubber_5 : decode cX8_rubber 5 = .ok (.iconst 1, 1) := by decide +kernel
theorem dX8_rubber_6 : decode cX8_rubber 6 = .ok (.goto 4, 3) := by decide +kernel
theorem dX8_rubber_9 : decode cX8_rubber 9 = .ok (.iconst 0, 1) := by decide +kernel
theorem dX8_rubber_10 : decode cX8_rubber 10 = .ok (.iload_n 1, 1) := by decide +kernel
theorem dX8_rubber_11 : decode cX8_rubber 11 = .ok (.bipush 18, 2) := by decide +kernel
theorem dX8_rubber_13 : decode cX8_rubber 13 = .ok (.if_icmp .le 7, 3) := by decide +kernel
theorem dX8_rubber_16 : decode cX8_rubber 16 = .ok (.iconst 1, 1) := by decide +kernel
theorem dX8_rubber_17 : decode cX8_rubber 17 = .ok (.goto 4, 3) := by decide +kernel
theorem dX8_rubber_20 : decode cX8_rubber 20 = .ok (.iconst 0, 1) := by decide +kernel
theorem dX8_rubber_21 : decode cX8_rubber 21 = .ok (.iconst 0, 1) := by decide +kernel
theorem dX8_rubber_22 : decode cX8_rubber 22 = .ok (.invokestatic 50, 3) := by decide +kernel
theorem dX8_rubber_25 : decode cX8_rubber 25 = .ok (.istore_n 2, 1) := by decide +kernel
theorem dX8_rubber_26 : decode cX8_rubber 26 = .ok (.iload_n 2, 1) := by decide +kernel
theorem dX8_rubber_27 : decode cX8_rubber 27 = .ok (.ifCond .eq 9, 3) := by decide +kernel
theorem dX8_rubber_30 : decode cX8_rubber 30 = .ok (.aload_n 0, 1) := by decide +kernel
theorem dX8_rubber_31 : decode cX8_rubber 31 = .ok (.iload_n 2, 1) := by decide +kernel
theorem dX8_rubber_32 : decode cX8_rubber 32 = .ok (.invokevirtual 54, 3) := by decide +kernel
theorem dX8_rubber_35 : decode cX8_rubber 35 = .ok (.ireturn, 1) := by decide +kernel
theorem dX8_rubber_36 : decode cX8_rubber 36 = .ok (.aload_n 0, 1) := by decide +kernel
theorem dX8_rubber_37 : decode cX8_rubber 37 = .ok (.getfield 12, 3) := by decide +kernel
theorem dX8_rubber_40 : decode cX8_rubber 40 = .ok (.aload_n 0, 1) := by decide +kernel
theorem dX8_rubber_41 : decode cX8_rubber 41 = .ok (.getfield 33, 3) := by decide +kernel
theorem dX8_rubber_44 : decode cX8_rubber 44 = .ok (.invokevirtual 130, 3) := by decide +kernel
theorem dX8_rubber_47 : decode cX8_rubber 47 = .ok (.aload_n 0, 1) := by decide +kernel
theorem dX8_rubber_48 : decode cX8_rubber 48 = .ok (.getfield 33, 3) := by decide +kernel
theorem dX8_rubber_51 : decode cX8_rubber 51 = .ok (.getfield 151, 3) := by decide +kernel
theorem dX8_rubber_54 : decode cX8_rubber 54 = .ok (.istore_n 3, 1) := by decide +kernel
theorem dX8_rubber_55 : decode cX8_rubber 55 = .ok (.aload_n 0, 1) := by decide +kernel
theorem dX8_rubber_56 : decode cX8_rubber 56 = .ok (.getfield 33, 3) := by decide +kernel
theorem dX8_rubber_59 : decode cX8_rubber 59 = .ok (.iload_n 1, 1) := by decide +kernel
theorem dX8_rubber_60 : decode cX8_rubber 60 = .ok (.putfield 151, 3) := by decide +kernel
theorem dX8_rubber_63 : decode cX8_rubber 63 = .ok (.iload_n 3, 1) := by decide +kernel
theorem dX8_rubber_64 : decode cX8_rubber 64 = .ok (.ireturn, 1) := by decide +kernel
theorem dX8_recalls_0 : decode cX8_recalls 0 = .ok (.aload_n 0, 1) := by decide +kernel
theorem dX8_recalls_1 : decode cX8_recalls 1 = .ok (.iload_n 1, 1) := by decide +kernel
theorem dX8_recalls_2 : decode cX8_recalls 2 = .ok (.invokevirtual 81, 3) := by decide +kernel
theorem dX8_recalls_5 : decode cX8_recalls 5 = .ok (.ifCond .ne 9, 3) := by decide +kernel
theorem dX8_recalls_8 : decode cX8_recalls 8 = .ok (.aload_n 0, 1) := by decide +kernel
theorem dX8_recalls_9 : decode cX8_recalls 9 = .ok (.iconst (-1), 1) := by decide +kernel
theorem dX8_recalls_10 : decode cX8_recalls 10 = .ok (.invokevirtual 54, 3) := by decide +kernel
theorem dX8_recalls_13 : decode cX8_recalls 13 = .ok (.ireturn, 1) := by decide +kernel
theorem dX8_recalls_14 : decode cX8_recalls 14 = .ok (.aload_n 0, 1) := by decide +kernel
theorem dX8_recalls_15 : decode cX8_recalls 15 = .ok (.getfield 12, 3) := by decide +kernel
theorem dX8_recalls_18 : decode cX8_recalls 18 = .ok (.aload_n 0, 1) := by decide +kernel
theorem dX8_recalls_19 : decode cX8_recalls 19 = .ok (.getfield 33, 3) := by decide +kernel
theorem dX8_recalls_22 : decode cX8_recalls 22 = .ok (.invokevirtual 130, 3) := by decide +kernel
theorem dX8_recalls_25 : decode cX8_recalls 25 = .ok (.aload_n 0, 1) := by decide +kernel
theorem dX8_recalls_26 : decode cX8_recalls 26 = .ok (.getfield 33, 3) := by decide +kernel
theorem dX8_recalls_29 : decode cX8_recalls 29 = .ok (.getfield 109, 3) := by decide +kernel
theorem dX8_recalls_32 : decode cX8_recalls 32 = .ok (.iload_n 1, 1) := by decide +kernel
theorem dX8_recalls_33 : decode cX8_recalls 33 = .ok (.invokevirtual 154, 3) := by decide +kernel
theorem dX8_recalls_36 : decode cX8_recalls 36 = .ok (.ireturn, 1) := by decide +kernel
theorem dX8_days_0 : decode cX8_days 0 = .ok (.iconst 0, 1) := by decide +kernel
theorem dX8_days_1 : decode cX8_days 1 = .ok (.iload_n 1, 1) := by decide +kernel
theorem dX8_days_2 : decode cX8_days 2 = .ok (.iconst 1, 1) := by decide +kernel
theorem dX8_days_3 : decode cX8_days 3 = .ok (.if_icmp .ge 7, 3) := by decide +kernel
theorem dX8_days_6 : decode cX8_days 6 = .ok (.iconst 1, 1) := by decide +kernel
theorem dX8_days_7 : decode cX8_days 7 = .ok (.goto 4, 3) := by decide +kernel
theorem dX8_days_10 : decode cX8_days 10 = .ok (.iconst 0, 1) := by decide +kernel
theorem dX8_days_11 : decode cX8_days 11 = .ok (.iload_n 1, 1) := by decide +kernel
theorem dX8_days_12 : decode cX8_days 12 = .ok (.bipush 60, 2) := by decide +kernel
theorem dX8_days_14 : decode cX8_days 14 = .ok (.if_icmp .gt 18, 3) := by decide +kernel
theorem dX8_days_17 : decode cX8_days 17 = .ok (.aload_n 0, 1) := by decide +kernel
theorem dX8_days_18 : decode cX8_days 18 = .ok (.getfield 33, 3) := by decide +kernel
theorem dX8_days_21 : decode cX8_days 21 = .ok (.getfield 157, 3) := by decide +kernel
theorem dX8_days_24 : decode cX8_days 24 = .ok (.iload_n 1, 1) := by decide +kernel
theorem dX8_days_25 : decode cX8_days 25 = .ok (.iadd, 1) := by decide +kernel
theorem dX8_days_26 : decode cX8_days 26 = .ok (.sipush 999, 3) := by decide +kernel
theorem dX8_days_29 : decode cX8_days 29 = .ok (.if_icmp .le 7, 3) := by decide +kernel
theorem dX8_days_32 : decode cX8_days 32 = .ok (.iconst 1, 1) := by decide +kernel
theorem dX8_days_33 : decode cX8_days 33 = .ok (.goto 4, 3) := by decide +kernel
theorem dX8_days_36 : decode cX8_days 36 = .ok (.iconst 0, 1) := by decide +kernel
theorem dX8_days_37 : decode cX8_days 37 = .ok (.iconst 0, 1) := by decide +kernel
theorem dX8_days_38 : decode cX8_days 38 = .ok (.invokestatic 50, 3) := by decide +kernel
theorem dX8_days_41 : decode cX8_days 41 = .ok (.istore_n 2, 1) := by decide +kernel
theorem dX8_days_42 : decode cX8_days 42 = .ok (.iload_n 2, 1) := by decide +kernel
theorem dX8_days_43 : decode cX8_days 43 = .ok (.ifCond .eq 9, 3) := by decide +kernel
theorem dX8_days_46 : decode cX8_days 46 = .ok (.aload_n 0, 1) := by decide +kernel
theorem dX8_days_47 : decode cX8_days 47 = .ok (.iload_n 2, 1) := by decide +kernel
theorem dX8_days_48 : decode cX8_days 48 = .ok (.invokevirtual 54, 3) := by decide +kernel
theorem dX8_days_51 : decode cX8_days 51 = .ok (.ireturn, 1) := by decide +kernel
theorem dX8_days_52 : decode cX8_days 52 = .ok (.aload_n 0, 1) := by decide +kernel
theorem dX8_days_53 : decode cX8_days 53 = .ok (.getfield 12, 3) := by decide +kernel
theorem dX8_days_56 : decode cX8_days 56 = .ok (.aload_n 0, 1) := by decide +kernel
theorem dX8_days_57 : decode cX8_days 57 = .ok (.getfield 33, 3) := by decide +kernel
theorem dX8_days_60 : decode cX8_days 60 = .ok (.invokevirtual 130, 3) := by decide +kernel
theorem dX8_days_63 : decode cX8_days 63 = .ok (.aload_n 0, 1) := by decide +kernel
theorem dX8_days_64 : decode cX8_days 64 = .ok (.getfield 33, 3) := by decide +kernel
theorem dX8_days_67 : decode cX8_days 67 = .ok (.iload_n 1, 1) := by decide +kernel
theorem dX8_days_68 : decode cX8_days 68 = .ok (.invokevirtual 160, 3) := by decide +kernel
theorem dX8_days_71 : decode cX8_days 71 = .ok (.aload_n 0, 1) := by decide +kernel
theorem dX8_days_72 : decode cX8_days 72 = .ok (.getfield 33, 3) := by decide +kernel
theorem dX8_days_75 : decode cX8_days 75 = .ok (.getfield 164, 3) := by decide +kernel
theorem dX8_days_78 : decode cX8_days 78 = .ok (.invokestatic 167, 3) := by decide +kernel
theorem dX8_days_81 : decode cX8_days 81 = .ok (.ireturn, 1) := by decide +kernel
theorem dX8_back_0 : decode cX8_back 0 = .ok (.aload_n 0, 1) := by decide +kernel
theorem dX8_back_1 : decode cX8_back 1 = .ok (.getfield 12, 3) := by decide +kernel
theorem dX8_back_4 : decode cX8_back 4 = .ok (.getfield 173, 3) := by decide +kernel
theorem dX8_back_7 : decode cX8_back 7 = .ok (.ifCond .ne 10, 3) := by decide +kernel
theorem dX8_back_10 : decode cX8_back 10 = .ok (.aload_n 0, 1) := by decide +kernel
theorem dX8_back_11 : decode cX8_back 11 = .ok (.bipush (-3), 2) := by decide +kernel
theorem dX8_back_13 : decode cX8_back 13 = .ok (.invokevirtual 54, 3) := by decide +kernel
theorem dX8_back_16 : decode cX8_back 16 = .ok (.ireturn, 1) := by decide +kernel
theorem dX8_back_17 : decode cX8_back 17 = .ok (.aload_n 0, 1) := by decide +kernel
theorem dX8_back_18 : decode cX8_back 18 = .ok (.getfield 12, 3) := by decide +kernel
theorem dX8_back_21 : decode cX8_back 21 = .ok (.aload_n 0, 1) := by decide +kernel
theorem dX8_back_22 : decode cX8_back 22 = .ok (.getfield 33, 3) := by decide +kernel
theorem dX8_back_25 : decode cX8_back 25 = .ok (.invokevirtual 176, 3) := by decide +kernel
theorem dX8_back_28 : decode cX8_back 28 = .ok (.aload_n 0, 1) := by decide +kernel
theorem dX8_back_29 : decode cX8_back 29 = .ok (.getfield 12, 3) := by decide +kernel
theorem dX8_back_32 : decode cX8_back 32 = .ok (.getfield 173, 3) := by decide +kernel
theorem dX8_back_35 : decode cX8_back 35 = .ok (.ireturn, 1) := by decide +kernel
theorem dX8_knownIn_0 : decode cX8_knownIn 0 = .ok (.aload_n 0, 1) := by decide +kernel
theorem dX8_knownIn_1 : decode cX8_knownIn 1 = .ok (.iload_n 1, 1) := by decide +kernel
theorem dX8_knownIn_2 : decode cX8_knownIn 2 = .ok (.invokevirtual 89, 3) := by decide +kernel
theorem dX8_knownIn_5 : decode cX8_knownIn 5 = .ok (.ifCond .ne 7, 3) := by decide +kernel
theorem dX8_knownIn_8 : decode cX8_knownIn 8 = .ok (.iconst 1, 1) := by decide +kernel
theorem dX8_knownIn_9 : decode cX8_knownIn 9 = .ok (.goto 4, 3) := by decide +kernel
theorem dX8_knownIn_12 : decode cX8_knownIn 12 = .ok (.iconst 0, 1) := by decide +kernel
theorem dX8_knownIn_13 : decode cX8_knownIn 13 = .ok (.iload_n 2, 1) := by decide +kernel
theorem dX8_knownIn_14 : decode cX8_knownIn 14 = .ok (.ifCond .ge 7, 3) := by decide +kernel
theorem dX8_knownIn_17 : decode cX8_knownIn 17 = .ok (.iconst 1, 1) := by decide +kernel
theorem dX8_knownIn_18 : decode cX8_knownIn 18 = .ok (.goto 4, 3) := by decide +kernel
theorem dX8_knownIn_21 : decode cX8_knownIn 21 = .ok (.iconst 0, 1) := by decide +kernel
theorem dX8_knownIn_22 : decode cX8_knownIn 22 = .ok (.iload_n 2, 1) := by decide +kernel
theorem dX8_knownIn_23 : decode cX8_knownIn 23 = .ok (.bipush 60, 2) := by decide +kernel
theorem dX8_knownIn_25 : decode cX8_knownIn 25 = .ok (.if_icmp .le 7, 3) := by decide +kernel
theorem dX8_knownIn_28 : decode cX8_knownIn 28 = .ok (.iconst 1, 1) := by decide +kernel
theorem dX8_knownIn_29 : decode cX8_knownIn 29 = .ok (.goto 4, 3) := by decide +kernel
theorem dX8_knownIn_32 : decode cX8_knownIn 32 = .ok (.iconst 0, 1) := by decide +kernel
theorem dX8_knownIn_33 : decode cX8_knownIn 33 = .ok (.iconst 0, 1) := by decide +kernel
theorem dX8_knownIn_34 : decode cX8_knownIn 34 = .ok (.invokestatic 50, 3) := by decide +kernel
theorem dX8_knownIn_37 : decode cX8_knownIn 37 = .ok (.istore_n 3, 1) := by decide +kernel
theorem dX8_knownIn_38 : decode cX8_knownIn 38 = .ok (.iload_n 3, 1) := by decide +kernel
theorem dX8_knownIn_39 : decode cX8_knownIn 39 = .ok (.ifCond .eq 11, 3) := by decide +kernel
theorem dX8_knownIn_42 : decode cX8_knownIn 42 = .ok (.aload_n 0, 1) := by decide +kernel
theorem dX8_knownIn_43 : decode cX8_knownIn 43 = .ok (.iload_n 3, 1) := by decide +kernel
theorem dX8_knownIn_44 : decode cX8_knownIn 44 = .ok (.invokevirtual 54, 3) := by decide +kernel
theorem dX8_knownIn_47 : decode cX8_knownIn 47 = .ok (.goto 18, 3) := by decide +kernel
theorem dX8_knownIn_50 : decode cX8_knownIn 50 = .ok (.aload_n 0, 1) := by decide +kernel
theorem dX8_knownIn_51 : decode cX8_knownIn 51 = .ok (.getfield 42, 3) := by decide +kernel
theorem dX8_knownIn_54 : decode cX8_knownIn 54 = .ok (.iload_n 2, 1) := by decide +kernel
theorem dX8_knownIn_55 : decode cX8_knownIn 55 = .ok (.invokevirtual 179, 3) := by decide +kernel
theorem dX8_knownIn_58 : decode cX8_knownIn 58 = .ok (.iload_n 1, 1) := by decide +kernel
theorem dX8_knownIn_59 : decode cX8_knownIn 59 = .ok (.invokevirtual 96, 3) := by decide +kernel
theorem dX8_knownIn_62 : decode cX8_knownIn 62 = .ok (.invokestatic 167, 3) := by decide +kernel
theorem dX8_knownIn_65 : decode cX8_knownIn 65 = .ok (.ireturn, 1) := by decide +kernel
theorem dX8_then_0 : decode cX8_then 0 = .ok (.iconst 0, 1) := by decide +kernel
theorem dX8_then_1 : decode cX8_then 1 = .ok (.iload_n 1, 1) := by decide +kernel
theorem dX8_then_2 : decode cX8_then 2 = .ok (.ifCond .ge 7, 3) := by decide +kernel
theorem dX8_then_5 : decode cX8_then 5 = .ok (.iconst 1, 1) := by decide +kernel
theorem dX8_then_6 : decode cX8_then 6 = .ok (.goto 4, 3) := by decide +kernel
theorem dX8_then_9 : decode cX8_then 9 = .ok (.iconst 0, 1) := by decide +kernel
theorem dX8_then_10 : decode cX8_then 10 = .ok (.iload_n 1, 1) := by decide +kernel
theorem dX8_then_11 : decode cX8_then 11 = .ok (.bipush 60, 2) := by decide +kernel
theorem dX8_then_13 : decode cX8_then 13 = .ok (.if_icmp .le 7, 3) := by decide +kernel
theorem dX8_then_16 : decode cX8_then 16 = .ok (.iconst 1, 1) := by decide +kernel
theorem dX8_then_17 : decode cX8_then 17 = .ok (.goto 4, 3) := by decide +kernel
theorem dX8_then_20 : decode cX8_then 20 = .ok (.iconst 0, 1) := by decide +kernel
theorem dX8_then_21 : decode cX8_then 21 = .ok (.iload_n 2, 1) := by decide +kernel
theorem dX8_then_22 : decode cX8_then 22 = .ok (.ifCond .lt 8, 3) := by decide +kernel
theorem dX8_then_25 : decode cX8_then 25 = .ok (.iload_n 2, 1) := by decide +kernel
theorem dX8_then_26 : decode cX8_then 26 = .ok (.iconst 3, 1) := by decide +kernel
theorem dX8_then_27 : decode cX8_then 27 = .ok (.if_icmp .le 7, 3) := by decide +kernel
theorem dX8_then_30 : decode cX8_then 30 = .ok (.iconst 1, 1) := by decide +kernel
theorem dX8_then_31 : decode cX8_then 31 = .ok (.goto 4, 3) := by decide +kernel
theorem dX8_then_34 : decode cX8_then 34 = .ok (.iconst 0, 1) := by decide +kernel
theorem dX8_then_35 : decode cX8_then 35 = .ok (.invokestatic 50, 3) := by decide +kernel
theorem dX8_then_38 : decode cX8_then 38 = .ok (.istore_n 3, 1) := by decide +kernel
theorem dX8_then_39 : decode cX8_then 39 = .ok (.iload_n 3, 1) := by decide +kernel
theorem dX8_then_40 : decode cX8_then 40 = .ok (.ifCond .eq 11, 3) := by decide +kernel
theorem dX8_then_43 : decode cX8_then 43 = .ok (.aload_n 0, 1) := by decide +kernel
theorem dX8_then_44 : decode cX8_then 44 = .ok (.iload_n 3, 1) := by decide +kernel
theorem dX8_then_45 : decode cX8_then 45 = .ok (.invokevirtual 54, 3) := by decide +kernel
theorem dX8_then_48 : decode cX8_then 48 = .ok (.goto 15, 3) := by decide +kernel
theorem dX8_then_51 : decode cX8_then 51 = .ok (.aload_n 0, 1) := by decide +kernel
theorem dX8_then_52 : decode cX8_then 52 = .ok (.getfield 42, 3) := by decide +kernel
theorem dX8_then_55 : decode cX8_then 55 = .ok (.iload_n 1, 1) := by decide +kernel
theorem dX8_then_56 : decode cX8_then 56 = .ok (.invokevirtual 179, 3) := by decide +kernel
theorem dX8_then_59 : decode cX8_then 59 = .ok (.iload_n 2, 1) := by decide +kernel
theorem dX8_then_60 : decode cX8_then 60 = .ok (.invokevirtual 183, 3) := by decide +kernel
theorem dX8_then_63 : decode cX8_then 63 = .ok (.ireturn, 1) := by decide +kernel
theorem dX8_when_0 : decode cX8_when 0 = .ok (.aload_n 0, 1) := by decide +kernel
theorem dX8_when_1 : decode cX8_when 1 = .ok (.iload_n 1, 1) := by decide +kernel
theorem dX8_when_2 : decode cX8_when 2 = .ok (.invokevirtual 89, 3) := by decide +kernel
theorem dX8_when_5 : decode cX8_when 5 = .ok (.ifCond .ne 7, 3) := by decide +kernel
theorem dX8_when_8 : decode cX8_when 8 = .ok (.iconst 1, 1) := by decide +kernel
theorem dX8_when_9 : decode cX8_when 9 = .ok (.goto 4, 3) := by decide +kernel
theorem dX8_when_12 : decode cX8_when 12 = .ok (.iconst 0, 1) := by decide +kernel
theorem dX8_when_13 : decode cX8_when 13 = .ok (.iload_n 2, 1) := by decide +kernel
theorem dX8_when_14 : decode cX8_when 14 = .ok (.ifCond .ge 7, 3) := by decide +kernel
theorem dX8_when_17 : decode cX8_when 17 = .ok (.iconst 1, 1) := by decide +kernel
theorem dX8_when_18 : decode cX8_when 18 = .ok (.goto 4, 3) := by decide +kernel
theorem dX8_when_21 : decode cX8_when 21 = .ok (.iconst 0, 1) := by decide +kernel
theorem dX8_when_22 : decode cX8_when 22 = .ok (.iload_n 2, 1) := by decide +kernel
theorem dX8_when_23 : decode cX8_when 23 = .ok (.bipush 39, 2) := by decide +kernel
theorem dX8_when_25 : decode cX8_when 25 = .ok (.if_icmp .le 7, 3) := by decide +kernel
theorem dX8_when_28 : decode cX8_when 28 = .ok (.iconst 1, 1) := by decide +kernel
theorem dX8_when_29 : decode cX8_when 29 = .ok (.goto 4, 3) := by decide +kernel
theorem dX8_when_32 : decode cX8_when 32 = .ok (.iconst 0, 1) := by decide +kernel
theorem dX8_when_33 : decode cX8_when 33 = .ok (.iconst 0, 1) := by decide +kernel
theorem dX8_when_34 : decode cX8_when 34 = .ok (.invokestatic 50, 3) := by decide +kernel
theorem dX8_when_37 : decode cX8_when 37 = .ok (.istore_n 3, 1) := by decide +kernel
theorem dX8_when_38 : decode cX8_when 38 = .ok (.iload_n 3, 1) := by decide +kernel
theorem dX8_when_39 : decode cX8_when 39 = .ok (.ifCond .eq 11, 3) := by decide +kernel
theorem dX8_when_42 : decode cX8_when 42 = .ok (.aload_n 0, 1) := by decide +kernel
theorem dX8_when_43 : decode cX8_when 43 = .ok (.iload_n 3, 1) := by decide +kernel
theorem dX8_when_44 : decode cX8_when 44 = .ok (.invokevirtual 54, 3) := by decide +kernel
theorem dX8_when_47 : decode cX8_when 47 = .ok (.goto 15, 3) := by decide +kernel
theorem dX8_when_50 : decode cX8_when 50 = .ok (.aload_n 0, 1) := by decide +kernel
theorem dX8_when_51 : decode cX8_when 51 = .ok (.getfield 42, 3) := by decide +kernel
theorem dX8_when_54 : decode cX8_when 54 = .ok (.invokevirtual 61, 3) := by decide +kernel
theorem dX8_when_57 : decode cX8_when 57 = .ok (.iload_n 1, 1) := by decide +kernel
theorem dX8_when_58 : decode cX8_when 58 = .ok (.iload_n 2, 1) := by decide +kernel
theorem dX8_when_59 : decode cX8_when 59 = .ok (.invokevirtual 186, 3) := by decide +kernel
theorem dX8_when_62 : decode cX8_when 62 = .ok (.ireturn, 1) := by decide +kernel
theorem dX8_first_0 : decode cX8_first 0 = .ok (.iconst 0, 1) := by decide +kernel
theorem dX8_first_1 : decode cX8_first 1 = .ok (.iload_n 1, 1) := by decide +kernel
theorem dX8_first_2 : decode cX8_first 2 = .ok (.ifCond .ge 7, 3) := by decide +kernel
theorem dX8_first_5 : decode cX8_first 5 = .ok (.iconst 1, 1) := by decide +kernel
theorem dX8_first_6 : decode cX8_first 6 = .ok (.goto 4, 3) := by decide +kernel
theorem dX8_first_9 : decode cX8_first 9 = .ok (.iconst 0, 1) := by decide +kernel
theorem dX8_first_10 : decode cX8_first 10 = .ok (.iload_n 1, 1) := by decide +kernel
theorem dX8_first_11 : decode cX8_first 11 = .ok (.bipush 39, 2) := by decide +kernel
theorem dX8_first_13 : decode cX8_first 13 = .ok (.if_icmp .le 7, 3) := by decide +kernel
theorem dX8_first_16 : decode cX8_first 16 = .ok (.iconst 1, 1) := by decide +kernel
theorem dX8_first_17 : decode cX8_first 17 = .ok (.goto 4, 3) := by decide +kernel
theorem dX8_first_20 : decode cX8_first 20 = .ok (.iconst 0, 1) := by decide +kernel
theorem dX8_first_21 : decode cX8_first 21 = .ok (.iconst 0, 1) := by decide +kernel
theorem dX8_first_22 : decode cX8_first 22 = .ok (.invokestatic 50, 3) := by decide +kernel
theorem dX8_first_25 : decode cX8_first 25 = .ok (.istore_n 2, 1) := by decide +kernel
theorem dX8_first_26 : decode cX8_first 26 = .ok (.iload_n 2, 1) := by decide +kernel
theorem dX8_first_27 : decode cX8_first 27 = .ok (.ifCond .eq 11, 3) := by decide +kernel
theorem dX8_first_30 : decode cX8_first 30 = .ok (.aload_n 0, 1) := by decide +kernel
theorem dX8_first_31 : decode cX8_first 31 = .ok (.iload_n 2, 1) := by decide +kernel
theorem dX8_first_32 : decode cX8_first 32 = .ok (.invokevirtual 54, 3) := by decide +kernel
theorem dX8_first_35 : decode cX8_first 35 = .ok (.goto 11, 3) := by decide +kernel
theorem dX8_first_38 : decode cX8_first 38 = .ok (.aload_n 0, 1) := by decide +kernel
theorem dX8_first_39 : decode cX8_first 39 = .ok (.getfield 42, 3) := by decide +kernel
theorem dX8_first_42 : decode cX8_first 42 = .ok (.iload_n 1, 1) := by decide +kernel
theorem dX8_first_43 : decode cX8_first 43 = .ok (.invokevirtual 189, 3) := by decide +kernel
theorem dX8_first_46 : decode cX8_first 46 = .ok (.ireturn, 1) := by decide +kernel
theorem dX8_letHer_0 : decode cX8_letHer 0 = .ok (.aload_n 0, 1) := by decide +kernel
theorem dX8_letHer_1 : decode cX8_letHer 1 = .ok (.iload_n 1, 1) := by decide +kernel
theorem dX8_letHer_2 : decode cX8_letHer 2 = .ok (.invokevirtual 81, 3) := by decide +kernel
theorem dX8_letHer_5 : decode cX8_letHer 5 = .ok (.ifCond .ne 7, 3) := by decide +kernel
theorem dX8_letHer_8 : decode cX8_letHer 8 = .ok (.iconst 1, 1) := by decide +kernel
theorem dX8_letHer_9 : decode cX8_letHer 9 = .ok (.goto 4, 3) := by decide +kernel
theorem dX8_letHer_12 : decode cX8_letHer 12 = .ok (.iconst 0, 1) := by decide +kernel
theorem dX8_letHer_13 : decode cX8_letHer 13 = .ok (.iload_n 2, 1) := by decide +kernel
theorem dX8_letHer_14 : decode cX8_letHer 14 = .ok (.ifCond .ge 7, 3) := by decide +kernel
theorem dX8_letHer_17 : decode cX8_letHer 17 = .ok (.iconst 1, 1) := by decide +kernel
theorem dX8_letHer_18 : decode cX8_letHer 18 = .ok (.goto 4, 3) := by decide +kernel
theorem dX8_letHer_21 : decode cX8_letHer 21 = .ok (.iconst 0, 1) := by decide +kernel
theorem dX8_letHer_22 : decode cX8_letHer 22 = .ok (.iload_n 2, 1) := by decide +kernel
theorem dX8_letHer_23 : decode cX8_letHer 23 = .ok (.bipush 30, 2) := by decide +kernel
theorem dX8_letHer_25 : decode cX8_letHer 25 = .ok (.if_icmp .le 7, 3) := by decide +kernel
theorem dX8_letHer_28 : decode cX8_letHer 28 = .ok (.iconst 1, 1) := by decide +kernel
theorem dX8_letHer_29 : decode cX8_letHer 29 = .ok (.goto 4, 3) := by decide +kernel
theorem dX8_letHer_32 : decode cX8_letHer 32 = .ok (.iconst 0, 1) := by decide +kernel
theorem dX8_letHer_33 : decode cX8_letHer 33 = .ok (.iload_n 3, 1) := by decide +kernel
theorem dX8_letHer_34 : decode cX8_letHer 34 = .ok (.invokestatic 192, 3) := by decide +kernel
theorem dX8_letHer_37 : decode cX8_letHer 37 = .ok (.ifCond .ne 7, 3) := by decide +kernel
theorem dX8_letHer_40 : decode cX8_letHer 40 = .ok (.iconst 1, 1) := by decide +kernel
theorem dX8_letHer_41 : decode cX8_letHer 41 = .ok (.goto 4, 3) := by decide +kernel
theorem dX8_letHer_44 : decode cX8_letHer 44 = .ok (.iconst 0, 1) := by decide +kernel
theorem dX8_letHer_45 : decode cX8_letHer 45 = .ok (.invokestatic 50, 3) := by decide +kernel
theorem dX8_letHer_48 : decode cX8_letHer 48 = .ok (.istore 4, 2) := by decide +kernel
theorem dX8_letHer_50 : decode cX8_letHer 50 = .ok (.iload 4, 2) := by decide +kernel
theorem dX8_letHer_52 : decode cX8_letHer 52 = .ok (.ifCond .eq 12, 3) := by decide +kernel
theorem dX8_letHer_55 : decode cX8_letHer 55 = .ok (.aload_n 0, 1) := by decide +kernel
theorem dX8_letHer_56 : decode cX8_letHer 56 = .ok (.iload 4, 2) := by decide +kernel
theorem dX8_letHer_58 : decode cX8_letHer 58 = .ok (.invokevirtual 54, 3) := by decide +kernel
theorem dX8_letHer_61 : decode cX8_letHer 61 = .ok (.goto 13, 3) := by decide +kernel
theorem dX8_letHer_64 : decode cX8_letHer 64 = .ok (.aload_n 0, 1) := by decide +kernel
theorem dX8_letHer_65 : decode cX8_letHer 65 = .ok (.getfield 42, 3) := by decide +kernel
theorem dX8_letHer_68 : decode cX8_letHer 68 = .ok (.iload_n 1, 1) := by decide +kernel
theorem dX8_letHer_69 : decode cX8_letHer 69 = .ok (.iload_n 2, 1) := by decide +kernel
theorem dX8_letHer_70 : decode cX8_letHer 70 = .ok (.iload_n 3, 1) := by decide +kernel
theorem dX8_letHer_71 : decode cX8_letHer 71 = .ok (.invokevirtual 195, 3) := by decide +kernel
theorem dX8_letHer_74 : decode cX8_letHer 74 = .ok (.ireturn, 1) := by decide +kernel
theorem dX8_rubberFor_0 : decode cX8_rubberFor 0 = .ok (.aload_n 0, 1) := by decide +kernel
theorem dX8_rubberFor_1 : decode cX8_rubberFor 1 = .ok (.iload_n 1, 1) := by decide +kernel
theorem dX8_rubberFor_2 : decode cX8_rubberFor 2 = .ok (.invokevirtual 81, 3) := by decide +kernel
theorem dX8_rubberFor_5 : decode cX8_rubberFor 5 = .ok (.ifCond .ne 7, 3) := by decide +kernel
theorem dX8_rubberFor_8 : decode cX8_rubberFor 8 = .ok (.iconst 1, 1) := by decide +kernel
theorem dX8_rubberFor_9 : decode cX8_rubberFor 9 = .ok (.goto 4, 3) := by decide +kernel
theorem dX8_rubberFor_12 : decode cX8_rubberFor 12 = .ok (.iconst 0, 1) := by decide +kernel
theorem dX8_rubberFor_13 : decode cX8_rubberFor 13 = .ok (.iload_n 2, 1) := by decide +kernel
theorem dX8_rubberFor_14 : decode cX8_rubberFor 14 = .ok (.ifCond .lt 7, 3) := by decide +kernel
theorem dX8_rubberFor_17 : decode cX8_rubberFor 17 = .ok (.iload_n 3, 1) := by decide +kernel
theorem dX8_rubberFor_18 : decode cX8_rubberFor 18 = .ok (.ifCond .ge 7, 3) := by decide +kernel
theorem dX8_rubberFor_21 : decode cX8_rubberFor 21 = .ok (.iconst 1, 1) := by decide +kernel
theorem dX8_rubberFor_22 : decode cX8_rubberFor 22 = .ok (.goto 4, 3) := by decide +kernel
theorem dX8_rubberFor_25 : decode cX8_rubberFor 25 = .ok (.iconst 0, 1) := by decide +kernel
theorem dX8_rubberFor_26 : decode cX8_rubberFor 26 = .ok (.iload_n 2, 1) := by decide +kernel
theorem dX8_rubberFor_27 : decode cX8_rubberFor 27 = .ok (.bipush 39, 2) := by decide +kernel
theorem dX8_rubberFor_29 : decode cX8_rubberFor 29 = .ok (.if_icmp .gt 9, 3) := by decide +kernel
theorem dX8_rubberFor_32 : decode cX8_rubberFor 32 = .ok (.iload_n 3, 1) := by decide +kernel
theorem dX8_rubberFor_33 : decode cX8_rubberFor 33 = .ok (.bipush 60, 2) := by decide +kernel
theorem dX8_rubberFor_35 : decode cX8_rubberFor 35 = .ok (.if_icmp .le 7, 3) := by decide +kernel
theorem dX8_rubberFor_38 : decode cX8_rubberFor 38 = .ok (.iconst 1, 1) := by decide +kernel
theorem dX8_rubberFor_39 : decode cX8_rubberFor 39 = .ok (.goto 4, 3) := by decide +kernel
theorem dX8_rubberFor_42 : decode cX8_rubberFor 42 = .ok (.iconst 0, 1) := by decide +kernel
theorem dX8_rubberFor_43 : decode cX8_rubberFor 43 = .ok (.iconst 0, 1) := by decide +kernel
theorem dX8_rubberFor_44 : decode cX8_rubberFor 44 = .ok (.invokestatic 50, 3) := by decide +kernel
theorem dX8_rubberFor_47 : decode cX8_rubberFor 47 = .ok (.istore 4, 2) := by decide +kernel
theorem dX8_rubberFor_49 : decode cX8_rubberFor 49 = .ok (.iload 4, 2) := by decide +kernel
theorem dX8_rubberFor_51 : decode cX8_rubberFor 51 = .ok (.ifCond .eq 12, 3) := by decide +kernel
theorem dX8_rubberFor_54 : decode cX8_rubberFor 54 = .ok (.aload_n 0, 1) := by decide +kernel
theorem dX8_rubberFor_55 : decode cX8_rubberFor 55 = .ok (.iload 4, 2) := by decide +kernel
theorem dX8_rubberFor_57 : decode cX8_rubberFor 57 = .ok (.invokevirtual 54, 3) := by decide +kernel
theorem dX8_rubberFor_60 : decode cX8_rubberFor 60 = .ok (.goto 13, 3) := by decide +kernel
theorem dX8_rubberFor_63 : decode cX8_rubberFor 63 = .ok (.aload_n 0, 1) := by decide +kernel
theorem dX8_rubberFor_64 : decode cX8_rubberFor 64 = .ok (.getfield 42, 3) := by decide +kernel
theorem dX8_rubberFor_67 : decode cX8_rubberFor 67 = .ok (.iload_n 1, 1) := by decide +kernel
theorem dX8_rubberFor_68 : decode cX8_rubberFor 68 = .ok (.iload_n 2, 1) := by decide +kernel
theorem dX8_rubberFor_69 : decode cX8_rubberFor 69 = .ok (.iload_n 3, 1) := by decide +kernel
theorem dX8_rubberFor_70 : decode cX8_rubberFor 70 = .ok (.invokevirtual 199, 3) := by decide +kernel
theorem dX8_rubberFor_73 : decode cX8_rubberFor 73 = .ok (.ireturn, 1) := by decide +kernel
theorem dX8_ink_0 : decode cX8_ink 0 = .ok (.iconst 0, 1) := by decide +kernel
theorem dX8_ink_1 : decode cX8_ink 1 = .ok (.iload_n 1, 1) := by decide +kernel
theorem dX8_ink_2 : decode cX8_ink 2 = .ok (.ifCond .lt 7, 3) := by decide +kernel
theorem dX8_ink_5 : decode cX8_ink 5 = .ok (.iload_n 2, 1) := by decide +kernel
theorem dX8_ink_6 : decode cX8_ink 6 = .ok (.ifCond .ge 7, 3) := by decide +kernel
theorem dX8_ink_9 : decode cX8_ink 9 = .ok (.iconst 1, 1) := by decide +kernel
theorem dX8_ink_10 : decode cX8_ink 10 = .ok (.goto 4, 3) := by decide +kernel
theorem dX8_ink_13 : decode cX8_ink 13 = .ok (.iconst 0, 1) := by decide +kernel
theorem dX8_ink_14 : decode cX8_ink 14 = .ok (.iload_n 1, 1) := by decide +kernel
theorem dX8_ink_15 : decode cX8_ink 15 = .ok (.bipush 39, 2) := by decide +kernel
theorem dX8_ink_17 : decode cX8_ink 17 = .ok (.if_icmp .gt 9, 3) := by decide +kernel
theorem dX8_ink_20 : decode cX8_ink 20 = .ok (.iload_n 2, 1) := by decide +kernel
theorem dX8_ink_21 : decode cX8_ink 21 = .ok (.bipush 30, 2) := by decide +kernel
theorem dX8_ink_23 : decode cX8_ink 23 = .ok (.if_icmp .le 7, 3) := by decide +kernel
theorem dX8_ink_26 : decode cX8_ink 26 = .ok (.iconst 1, 1) := by decide +kernel
theorem dX8_ink_27 : decode cX8_ink 27 = .ok (.goto 4, 3) := by decide +kernel
theorem dX8_ink_30 : decode cX8_ink 30 = .ok (.iconst 0, 1) := by decide +kernel
theorem dX8_ink_31 : decode cX8_ink 31 = .ok (.iconst 0, 1) := by decide +kernel
theorem dX8_ink_32 : decode cX8_ink 32 = .ok (.invokestatic 50, 3) := by decide +kernel
theorem dX8_ink_35 : decode cX8_ink 35 = .ok (.istore_n 3, 1) := by decide +kernel
theorem dX8_ink_36 : decode cX8_ink 36 = .ok (.iload_n 3, 1) := by decide +kernel
theorem dX8_ink_37 : decode cX8_ink 37 = .ok (.ifCond .eq 11, 3) := by decide +kernel
theorem dX8_ink_40 : decode cX8_ink 40 = .ok (.aload_n 0, 1) := by decide +kernel
theorem dX8_ink_41 : decode cX8_ink 41 = .ok (.iload_n 3, 1) := by decide +kernel
theorem dX8_ink_42 : decode cX8_ink 42 = .ok (.invokevirtual 54, 3) := by decide +kernel
theorem dX8_ink_45 : decode cX8_ink 45 = .ok (.goto 12, 3) := by decide +kernel
theorem dX8_ink_48 : decode cX8_ink 48 = .ok (.aload_n 0, 1) := by decide +kernel
theorem dX8_ink_49 : decode cX8_ink 49 = .ok (.getfield 42, 3) := by decide +kernel
theorem dX8_ink_52 : decode cX8_ink 52 = .ok (.iload_n 1, 1) := by decide +kernel
theorem dX8_ink_53 : decode cX8_ink 53 = .ok (.iload_n 2, 1) := by decide +kernel
theorem dX8_ink_54 : decode cX8_ink 54 = .ok (.invokevirtual 202, 3) := by decide +kernel
theorem dX8_ink_57 : decode cX8_ink 57 = .ok (.ireturn, 1) := by decide +kernel
theorem dX8_friendFor_0 : decode cX8_friendFor 0 = .ok (.aload_n 0, 1) := by decide +kernel
theorem dX8_friendFor_1 : decode cX8_friendFor 1 = .ok (.iload_n 1, 1) := by decide +kernel
theorem dX8_friendFor_2 : decode cX8_friendFor 2 = .ok (.invokevirtual 81, 3) := by decide +kernel
theorem dX8_friendFor_5 : decode cX8_friendFor 5 = .ok (.ifCond .eq 11, 3) := by decide +kernel
theorem dX8_friendFor_8 : decode cX8_friendFor 8 = .ok (.aload_n 0, 1) := by decide +kernel
theorem dX8_friendFor_9 : decode cX8_friendFor 9 = .ok (.iload_n 2, 1) := by decide +kernel
theorem dX8_friendFor_10 : decode cX8_friendFor 10 = .ok (.invokevirtual 81, 3) := by decide +kernel
theorem dX8_friendFor_13 : decode cX8_friendFor 13 = .ok (.ifCond .ne 7, 3) := by decide +kernel
theorem dX8_friendFor_16 : decode cX8_friendFor 16 = .ok (.iconst 1, 1) := by decide +kernel
theorem dX8_friendFor_17 : decode cX8_friendFor 17 = .ok (.goto 4, 3) := by decide +kernel
theorem dX8_friendFor_20 : decode cX8_friendFor 20 = .ok (.iconst 0, 1) := by decide +kernel
theorem dX8_friendFor_21 : decode cX8_friendFor 21 = .ok (.iload_n 3, 1) := by decide +kernel
theorem dX8_friendFor_22 : decode cX8_friendFor 22 = .ok (.ifCond .ge 7, 3) := by decide +kernel
theorem dX8_friendFor_25 : decode cX8_friendFor 25 = .ok (.iconst 1, 1) := by decide +kernel
theorem dX8_friendFor_26 : decode cX8_friendFor 26 = .ok (.goto 4, 3) := by decide +kernel
theorem dX8_friendFor_29 : decode cX8_friendFor 29 = .ok (.iconst 0, 1) := by decide +kernel
theorem dX8_friendFor_30 : decode cX8_friendFor 30 = .ok (.iload_n 3, 1) := by decide +kernel
theorem dX8_friendFor_31 : decode cX8_friendFor 31 = .ok (.bipush 39, 2) := by decide +kernel
theorem dX8_friendFor_33 : decode cX8_friendFor 33 = .ok (.if_icmp .le 7, 3) := by decide +kernel
theorem dX8_friendFor_36 : decode cX8_friendFor 36 = .ok (.iconst 1, 1) := by decide +kernel
theorem dX8_friendFor_37 : decode cX8_friendFor 37 = .ok (.goto 4, 3) := by decide +kernel
theorem dX8_friendFor_40 : decode cX8_friendFor 40 = .ok (.iconst 0, 1) := by decide +kernel
theorem dX8_friendFor_41 : decode cX8_friendFor 41 = .ok (.iload 4, 2) := by decide +kernel
theorem dX8_friendFor_43 : decode cX8_friendFor 43 = .ok (.invokestatic 192, 3) := by decide +kernel
theorem dX8_friendFor_46 : decode cX8_friendFor 46 = .ok (.ifCond .ne 7, 3) := by decide +kernel
theorem dX8_friendFor_49 : decode cX8_friendFor 49 = .ok (.iconst 1, 1) := by decide +kernel
theorem dX8_friendFor_50 : decode cX8_friendFor 50 = .ok (.goto 4, 3) := by decide +kernel
theorem dX8_friendFor_53 : decode cX8_friendFor 53 = .ok (.iconst 0, 1) := by decide +kernel
theorem dX8_friendFor_54 : decode cX8_friendFor 54 = .ok (.invokestatic 50, 3) := by decide +kernel
theorem dX8_friendFor_57 : decode cX8_friendFor 57 = .ok (.istore 5, 2) := by decide +kernel
theorem dX8_friendFor_59 : decode cX8_friendFor 59 = .ok (.iload 5, 2) := by decide +kernel
theorem dX8_friendFor_61 : decode cX8_friendFor 61 = .ok (.ifCond .eq 12, 3) := by decide +kernel
theorem dX8_friendFor_64 : decode cX8_friendFor 64 = .ok (.aload_n 0, 1) := by decide +kernel
theorem dX8_friendFor_65 : decode cX8_friendFor 65 = .ok (.iload 5, 2) := by decide +kernel
theorem dX8_friendFor_67 : decode cX8_friendFor 67 = .ok (.invokevirtual 54, 3) := by decide +kernel
theorem dX8_friendFor_70 : decode cX8_friendFor 70 = .ok (.goto 15, 3) := by decide +kernel
theorem dX8_friendFor_73 : decode cX8_friendFor 73 = .ok (.aload_n 0, 1) := by decide +kernel
theorem dX8_friendFor_74 : decode cX8_friendFor 74 = .ok (.getfield 42, 3) := by decide +kernel
theorem dX8_friendFor_77 : decode cX8_friendFor 77 = .ok (.iload_n 1, 1) := by decide +kernel
theorem dX8_friendFor_78 : decode cX8_friendFor 78 = .ok (.iload_n 2, 1) := by decide +kernel
theorem dX8_friendFor_79 : decode cX8_friendFor 79 = .ok (.iload_n 3, 1) := by decide +kernel
theorem dX8_friendFor_80 : decode cX8_friendFor 80 = .ok (.iload 4, 2) := by decide +kernel
theorem dX8_friendFor_82 : decode cX8_friendFor 82 = .ok (.invokevirtual 205, 3) := by decide +kernel
theorem dX8_friendFor_85 : decode cX8_friendFor 85 = .ok (.ireturn, 1) := by decide +kernel
theorem dX8_swap_0 : decode cX8_swap 0 = .ok (.iconst 0, 1) := by decide +kernel
theorem dX8_swap_1 : decode cX8_swap 1 = .ok (.iload_n 1, 1) := by decide +kernel
theorem dX8_swap_2 : decode cX8_swap 2 = .ok (.ifCond .ge 7, 3) := by decide +kernel
theorem dX8_swap_5 : decode cX8_swap 5 = .ok (.iconst 1, 1) := by decide +kernel
theorem dX8_swap_6 : decode cX8_swap 6 = .ok (.goto 4, 3) := by decide +kernel
theorem dX8_swap_9 : decode cX8_swap 9 = .ok (.iconst 0, 1) := by decide +kernel
theorem dX8_swap_10 : decode cX8_swap 10 = .ok (.iload_n 1, 1) := by decide +kernel
theorem dX8_swap_11 : decode cX8_swap 11 = .ok (.bipush 30, 2) := by decide +kernel
theorem dX8_swap_13 : decode cX8_swap 13 = .ok (.if_icmp .le 7, 3) := by decide +kernel
theorem dX8_swap_16 : decode cX8_swap 16 = .ok (.iconst 1, 1) := by decide +kernel
theorem dX8_swap_17 : decode cX8_swap 17 = .ok (.goto 4, 3) := by decide +kernel
theorem dX8_swap_20 : decode cX8_swap 20 = .ok (.iconst 0, 1) := by decide +kernel
theorem dX8_swap_21 : decode cX8_swap 21 = .ok (.iconst 0, 1) := by decide +kernel
theorem dX8_swap_22 : decode cX8_swap 22 = .ok (.invokestatic 50, 3) := by decide +kernel
theorem dX8_swap_25 : decode cX8_swap 25 = .ok (.istore_n 2, 1) := by decide +kernel
theorem dX8_swap_26 : decode cX8_swap 26 = .ok (.iload_n 2, 1) := by decide +kernel
theorem dX8_swap_27 : decode cX8_swap 27 = .ok (.ifCond .eq 11, 3) := by decide +kernel
theorem dX8_swap_30 : decode cX8_swap 30 = .ok (.aload_n 0, 1) := by decide +kernel
theorem dX8_swap_31 : decode cX8_swap 31 = .ok (.iload_n 2, 1) := by decide +kernel
theorem dX8_swap_32 : decode cX8_swap 32 = .ok (.invokevirtual 54, 3) := by decide +kernel
theorem dX8_swap_35 : decode cX8_swap 35 = .ok (.goto 11, 3) := by decide +kernel
theorem dX8_swap_38 : decode cX8_swap 38 = .ok (.aload_n 0, 1) := by decide +kernel
theorem dX8_swap_39 : decode cX8_swap 39 = .ok (.getfield 42, 3) := by decide +kernel
theorem dX8_swap_42 : decode cX8_swap 42 = .ok (.iload_n 1, 1) := by decide +kernel
theorem dX8_swap_43 : decode cX8_swap 43 = .ok (.invokevirtual 209, 3) := by decide +kernel
theorem dX8_swap_46 : decode cX8_swap 46 = .ok (.ireturn, 1) := by decide +kernel
theorem dX8_shade_0 : decode cX8_shade 0 = .ok (.iconst 0, 1) := by decide +kernel
theorem dX8_shade_1 : decode cX8_shade 1 = .ok (.iload_n 1, 1) := by decide +kernel
theorem dX8_shade_2 : decode cX8_shade 2 = .ok (.ifCond .ge 7, 3) := by decide +kernel
theorem dX8_shade_5 : decode cX8_shade 5 = .ok (.iconst 1, 1) := by decide +kernel
theorem dX8_shade_6 : decode cX8_shade 6 = .ok (.goto 4, 3) := by decide +kernel
theorem dX8_shade_9 : decode cX8_shade 9 = .ok (.iconst 0, 1) := by decide +kernel
theorem dX8_shade_10 : decode cX8_shade 10 = .ok (.iload_n 1, 1) := by decide +kernel
theorem dX8_shade_11 : decode cX8_shade 11 = .ok (.bipush 60, 2) := by decide +kernel
theorem dX8_shade_13 : decode cX8_shade 13 = .ok (.if_icmp .le 7, 3) := by decide +kernel
theorem dX8_shade_16 : decode cX8_shade 16 = .ok (.iconst 1, 1) := by decide +kernel
theorem dX8_shade_17 : decode cX8_shade 17 = .ok (.goto 4, 3) := by decide +kernel
theorem dX8_shade_20 : decode cX8_shade 20 = .ok (.iconst 0, 1) := by decide +kernel
theorem dX8_shade_21 : decode cX8_shade 21 = .ok (.iconst 0, 1) := by decide +kernel
theorem dX8_shade_22 : decode cX8_shade 22 = .ok (.invokestatic 50, 3) := by decide +kernel
theorem dX8_shade_25 : decode cX8_shade 25 = .ok (.istore_n 2, 1) := by decide +kernel
theorem dX8_shade_26 : decode cX8_shade 26 = .ok (.iload_n 2, 1) := by decide +kernel
theorem dX8_shade_27 : decode cX8_shade 27 = .ok (.ifCond .eq 14, 3) := by decide +kernel
theorem dX8_shade_30 : decode cX8_shade 30 = .ok (.ldc 212, 2) := by decide +kernel
theorem dX8_shade_32 : decode cX8_shade 32 = .ok (.aload_n 0, 1) := by decide +kernel
theorem dX8_shade_33 : decode cX8_shade 33 = .ok (.iload_n 2, 1) := by decide +kernel
theorem dX8_shade_34 : decode cX8_shade 34 = .ok (.invokevirtual 54, 3) := by decide +kernel
theorem dX8_shade_37 : decode cX8_shade 37 = .ok (.isub, 1) := by decide +kernel
theorem dX8_shade_38 : decode cX8_shade 38 = .ok (.goto 11, 3) := by decide +kernel
theorem dX8_shade_41 : decode cX8_shade 41 = .ok (.aload_n 0, 1) := by decide +kernel
theorem dX8_shade_42 : decode cX8_shade 42 = .ok (.getfield 42, 3) := by decide +kernel
theorem dX8_shade_45 : decode cX8_shade 45 = .ok (.iload_n 1, 1) := by decide +kernel
theorem dX8_shade_46 : decode cX8_shade 46 = .ok (.invokevirtual 213, 3) := by decide +kernel
theorem dX8_shade_49 : decode cX8_shade 49 = .ok (.ireturn, 1) := by decide +kernel
theorem dX8_whatKind_0 : decode cX8_whatKind 0 = .ok (.aload_n 0, 1) := by decide +kernel
theorem dX8_whatKind_1 : decode cX8_whatKind 1 = .ok (.iload_n 1, 1) := by decide +kernel
theorem dX8_whatKind_2 : decode cX8_whatKind 2 = .ok (.invokevirtual 81, 3) := by decide +kernel
theorem dX8_whatKind_5 : decode cX8_whatKind 5 = .ok (.ifCond .ne 7, 3) := by decide +kernel
theorem dX8_whatKind_8 : decode cX8_whatKind 8 = .ok (.iconst 1, 1) := by decide +kernel
theorem dX8_whatKind_9 : decode cX8_whatKind 9 = .ok (.goto 4, 3) := by decide +kernel
theorem dX8_whatKind_12 : decode cX8_whatKind 12 = .ok (.iconst 0, 1) := by decide +kernel
theorem dX8_whatKind_13 : decode cX8_whatKind 13 = .ok (.iconst 0, 1) := by decide +kernel
theorem dX8_whatKind_14 : decode cX8_whatKind 14 = .ok (.iconst 0, 1) := by decide +kernel
theorem dX8_whatKind_15 : decode cX8_whatKind 15 = .ok (.iload_n 2, 1) := by decide +kernel
theorem dX8_whatKind_16 : decode cX8_whatKind 16 = .ok (.invokestatic 192, 3) := by decide +kernel
theorem dX8_whatKind_19 : decode cX8_whatKind 19 = .ok (.ifCond .ne 7, 3) := by decide +kernel
theorem dX8_whatKind_22 : decode cX8_whatKind 22 = .ok (.iconst 1, 1) := by decide +kernel
theorem dX8_whatKind_23 : decode cX8_whatKind 23 = .ok (.goto 4, 3) := by decide +kernel
theorem dX8_whatKind_26 : decode cX8_whatKind 26 = .ok (.iconst 0, 1) := by decide +kernel
theorem dX8_whatKind_27 : decode cX8_whatKind 27 = .ok (.invokestatic 50, 3) := by decide +kernel
theorem dX8_whatKind_30 : decode cX8_whatKind 30 = .ok (.istore_n 3, 1) := by decide +kernel
theorem dX8_whatKind_31 : decode cX8_whatKind 31 = .ok (.iload_n 3, 1) := by decide +kernel
theorem dX8_whatKind_32 : decode cX8_whatKind 32 = .ok (.ifCond .eq 9, 3) := by decide +kernel
theorem dX8_whatKind_35 : decode cX8_whatKind 35 = .ok (.aload_n 0, 1) := by decide +kernel
theorem dX8_whatKind_36 : decode cX8_whatKind 36 = .ok (.iload_n 3, 1) := by decide +kernel
theorem dX8_whatKind_37 : decode cX8_whatKind 37 = .ok (.invokevirtual 54, 3) := by decide +kernel
theorem dX8_whatKind_40 : decode cX8_whatKind 40 = .ok (.ireturn, 1) := by decide +kernel
theorem dX8_whatKind_41 : decode cX8_whatKind 41 = .ok (.iload_n 2, 1) := by decide +kernel
theorem dX8_whatKind_42 : decode cX8_whatKind 42 = .ok (.ifCond .ne 19, 3) := by decide +kernel
theorem dX8_whatKind_45 : decode cX8_whatKind 45 = .ok (.aload_n 0, 1) := by decide +kernel
theorem dX8_whatKind_46 : decode cX8_whatKind 46 = .ok (.aload_n 0, 1) := by decide +kernel
theorem dX8_whatKind_47 : decode cX8_whatKind 47 = .ok (.getfield 33, 3) := by decide +kernel
theorem dX8_whatKind_50 : decode cX8_whatKind 50 = .ok (.getfield 216, 3) := by decide +kernel
theorem dX8_whatKind_53 : decode cX8_whatKind 53 = .ok (.iload_n 1, 1) := by decide +kernel
theorem dX8_whatKind_54 : decode cX8_whatKind 54 = .ok (.iaload, 1) := by decide +kernel
theorem dX8_whatKind_55 : decode cX8_whatKind 55 = .ok (.invokevirtual 219, 3) := by decide +kernel
theorem dX8_whatKind_58 : decode cX8_whatKind 58 = .ok (.goto 16, 3) := by decide +kernel
theorem dX8_whatKind_61 : decode cX8_whatKind 61 = .ok (.aload_n 0, 1) := by decide +kernel
theorem dX8_whatKind_62 : decode cX8_whatKind 62 = .ok (.aload_n 0, 1) := by decide +kernel
theorem dX8_whatKind_63 : decode cX8_whatKind 63 = .ok (.getfield 33, 3) := by decide +kernel
theorem dX8_whatKind_66 : decode cX8_whatKind 66 = .ok (.getfield 222, 3) := by decide +kernel
theorem dX8_whatKind_69 : decode cX8_whatKind 69 = .ok (.iload_n 1, 1) := by decide +kernel
theorem dX8_whatKind_70 : decode cX8_whatKind 70 = .ok (.iaload, 1) := by decide +kernel
theorem dX8_whatKind_71 : decode cX8_whatKind 71 = .ok (.invokevirtual 225, 3) := by decide +kernel
theorem dX8_whatKind_74 : decode cX8_whatKind 74 = .ok (.ireturn, 1) := by decide +kernel
theorem dX8_toWhom_0 : decode cX8_toWhom 0 = .ok (.aload_n 0, 1) := by decide +kernel
theorem dX8_toWhom_1 : decode cX8_toWhom 1 = .ok (.iload_n 1, 1) := by decide +kernel
theorem dX8_toWhom_2 : decode cX8_toWhom 2 = .ok (.invokevirtual 81, 3) := by decide +kernel
theorem dX8_toWhom_5 : decode cX8_toWhom 5 = .ok (.ifCond .eq 11, 3) := by decide +kernel
theorem dX8_toWhom_8 : decode cX8_toWhom 8 = .ok (.aload_n 0, 1) := by decide +kernel
theorem dX8_toWhom_9 : decode cX8_toWhom 9 = .ok (.iload_n 2, 1) := by decide +kernel
theorem dX8_toWhom_10 : decode cX8_toWhom 10 = .ok (.invokevirtual 81, 3) := by decide +kernel
theorem dX8_toWhom_13 : decode cX8_toWhom 13 = .ok (.ifCond .ne 7, 3) := by decide +kernel
theorem dX8_toWhom_16 : decode cX8_toWhom 16 = .ok (.iconst 1, 1) := by decide +kernel
theorem dX8_toWhom_17 : decode cX8_toWhom 17 = .ok (.goto 4, 3) := by decide +kernel
theorem dX8_toWhom_20 : decode cX8_toWhom 20 = .ok (.iconst 0, 1) := by decide +kernel
theorem dX8_toWhom_21 : decode cX8_toWhom 21 = .ok (.iconst 0, 1) := by decide +kernel
theorem dX8_toWhom_22 : decode cX8_toWhom 22 = .ok (.iconst 0, 1) := by decide +kernel
theorem dX8_toWhom_23 : decode cX8_toWhom 23 = .ok (.iconst 0, 1) := by decide +kernel
theorem dX8_toWhom_24 : decode cX8_toWhom 24 = .ok (.invokestatic 50, 3) := by decide +kernel
theorem dX8_toWhom_27 : decode cX8_toWhom 27 = .ok (.istore_n 3, 1) := by decide +kernel
theorem dX8_toWhom_28 : decode cX8_toWhom 28 = .ok (.iload_n 3, 1) := by decide +kernel
theorem dX8_toWhom_29 : decode cX8_toWhom 29 = .ok (.ifCond .eq 11, 3) := by decide +kernel
theorem dX8_toWhom_32 : decode cX8_toWhom 32 = .ok (.aload_n 0, 1) := by decide +kernel
theorem dX8_toWhom_33 : decode cX8_toWhom 33 = .ok (.iload_n 3, 1) := by decide +kernel
theorem dX8_toWhom_34 : decode cX8_toWhom 34 = .ok (.invokevirtual 54, 3) := by decide +kernel
theorem dX8_toWhom_37 : decode cX8_toWhom 37 = .ok (.goto 20, 3) := by decide +kernel
theorem dX8_toWhom_40 : decode cX8_toWhom 40 = .ok (.aload_n 0, 1) := by decide +kernel
theorem dX8_toWhom_41 : decode cX8_toWhom 41 = .ok (.getfield 42, 3) := by decide +kernel
theorem dX8_toWhom_44 : decode cX8_toWhom 44 = .ok (.iload_n 1, 1) := by decide +kernel
theorem dX8_toWhom_45 : decode cX8_toWhom 45 = .ok (.iload_n 2, 1) := by decide +kernel
theorem dX8_toWhom_46 : decode cX8_toWhom 46 = .ok (.aload_n 0, 1) := by decide +kernel
theorem dX8_toWhom_47 : decode cX8_toWhom 47 = .ok (.getfield 23, 3) := by decide +kernel
theorem dX8_toWhom_50 : decode cX8_toWhom 50 = .ok (.aload_n 0, 1) := by decide +kernel
theorem dX8_toWhom_51 : decode cX8_toWhom 51 = .ok (.getfield 228, 3) := by decide +kernel
theorem dX8_toWhom_54 : decode cX8_toWhom 54 = .ok (.invokevirtual 231, 3) := by decide +kernel
theorem dX8_toWhom_57 : decode cX8_toWhom 57 = .ok (.ireturn, 1) := by decide +kernel
theorem dX8_two_0 : decode cX8_two 0 = .ok (.aload_n 0, 1) := by decide +kernel
theorem dX8_two_1 : decode cX8_two 1 = .ok (.iload_n 1, 1) := by decide +kernel
theorem dX8_two_2 : decode cX8_two 2 = .ok (.iload_n 2, 1) := by decide +kernel
theorem dX8_two_3 : decode cX8_two 3 = .ok (.invokevirtual 235, 3) := by decide +kernel
theorem dX8_two_6 : decode cX8_two 6 = .ok (.ifCond .ne 7, 3) := by decide +kernel
theorem dX8_two_9 : decode cX8_two 9 = .ok (.iconst 1, 1) := by decide +kernel
theorem dX8_two_10 : decode cX8_two 10 = .ok (.goto 4, 3) := by decide +kernel
theorem dX8_two_13 : decode cX8_two 13 = .ok (.iconst 0, 1) := by decide +kernel
theorem dX8_two_14 : decode cX8_two 14 = .ok (.iload_n 3, 1) := by decide +kernel
theorem dX8_two_15 : decode cX8_two 15 = .ok (.iconst 1, 1) := by decide +kernel
theorem dX8_two_16 : decode cX8_two 16 = .ok (.if_icmp .ge 7, 3) := by decide +kernel
theorem dX8_two_19 : decode cX8_two 19 = .ok (.iconst 1, 1) := by decide +kernel
theorem dX8_two_20 : decode cX8_two 20 = .ok (.goto 4, 3) := by decide +kernel
theorem dX8_two_23 : decode cX8_two 23 = .ok (.iconst 0, 1) := by decide +kernel
theorem dX8_two_24 : decode cX8_two 24 = .ok (.iload_n 3, 1) := by decide +kernel
theorem dX8_two_25 : decode cX8_two 25 = .ok (.bipush 30, 2) := by decide +kernel
theorem dX8_two_27 : decode cX8_two 27 = .ok (.if_icmp .le 7, 3) := by decide +kernel
theorem dX8_two_30 : decode cX8_two 30 = .ok (.iconst 1, 1) := by decide +kernel
theorem dX8_two_31 : decode cX8_two 31 = .ok (.goto 4, 3) := by decide +kernel
theorem dX8_two_34 : decode cX8_two 34 = .ok (.iconst 0, 1) := by decide +kernel
theorem dX8_two_35 : decode cX8_two 35 = .ok (.iconst 0, 1) := by decide +kernel
theorem dX8_two_36 : decode cX8_two 36 = .ok (.invokestatic 50, 3) := by decide +kernel
theorem dX8_two_39 : decode cX8_two 39 = .ok (.istore 4, 2) := by decide +kernel
theorem dX8_two_41 : decode cX8_two 41 = .ok (.iload 4, 2) := by decide +kernel
theorem dX8_two_43 : decode cX8_two 43 = .ok (.ifCond .eq 12, 3) := by decide +kernel
theorem dX8_two_46 : decode cX8_two 46 = .ok (.aload_n 0, 1) := by decide +kernel
theorem dX8_two_47 : decode cX8_two 47 = .ok (.iload 4, 2) := by decide +kernel
theorem dX8_two_49 : decode cX8_two 49 = .ok (.invokevirtual 54, 3) := by decide +kernel
theorem dX8_two_52 : decode cX8_two 52 = .ok (.goto 13, 3) := by decide +kernel
theorem dX8_two_55 : decode cX8_two 55 = .ok (.aload_n 0, 1) := by decide +kernel
theorem dX8_two_56 : decode cX8_two 56 = .ok (.getfield 42, 3) := by decide +kernel
theorem dX8_two_59 : decode cX8_two 59 = .ok (.iload_n 1, 1) := by decide +kernel
theorem dX8_two_60 : decode cX8_two 60 = .ok (.iload_n 2, 1) := by decide +kernel
theorem dX8_two_61 : decode cX8_two 61 = .ok (.iload_n 3, 1) := by decide +kernel
theorem dX8_two_62 : decode cX8_two 62 = .ok (.invokevirtual 238, 3) := by decide +kernel
theorem dX8_two_65 : decode cX8_two 65 = .ok (.ireturn, 1) := by decide +kernel
theorem dX8_damp_0 : decode cX8_damp 0 = .ok (.iload_n 2, 1) := by decide +kernel
theorem dX8_damp_1 : decode cX8_damp 1 = .ok (.ifCond .lt 13, 3) := by decide +kernel
theorem dX8_damp_4 : decode cX8_damp 4 = .ok (.iload_n 3, 1) := by decide +kernel
theorem dX8_damp_5 : decode cX8_damp 5 = .ok (.ifCond .lt 9, 3) := by decide +kernel
theorem dX8_damp_8 : decode cX8_damp 8 = .ok (.iload 4, 2) := by decide +kernel
theorem dX8_damp_10 : decode cX8_damp 10 = .ok (.iconst 2, 1) := by decide +kernel
theorem dX8_damp_11 : decode cX8_damp 11 = .ok (.if_icmp .ge 7, 3) := by decide +kernel
theorem dX8_damp_14 : decode cX8_damp 14 = .ok (.iconst 1, 1) := by decide +kernel
theorem dX8_damp_15 : decode cX8_damp 15 = .ok (.goto 4, 3) := by decide +kernel
theorem dX8_damp_18 : decode cX8_damp 18 = .ok (.iconst 0, 1) := by decide +kernel
theorem dX8_damp_19 : decode cX8_damp 19 = .ok (.istore 6, 2) := by decide +kernel
theorem dX8_damp_21 : decode cX8_damp 21 = .ok (.iload_n 2, 1) := by decide +kernel
theorem dX8_damp_22 : decode cX8_damp 22 = .ok (.bipush 39, 2) := by decide +kernel
theorem dX8_damp_24 : decode cX8_damp 24 = .ok (.if_icmp .gt 16, 3) := by decide +kernel
theorem dX8_damp_27 : decode cX8_damp 27 = .ok (.iload_n 3, 1) := by decide +kernel
theorem dX8_damp_28 : decode cX8_damp 28 = .ok (.bipush 7, 2) := by decide +kernel
theorem dX8_damp_30 : decode cX8_damp 30 = .ok (.if_icmp .gt 10, 3) := by decide +kernel
theorem dX8_damp_33 : decode cX8_damp 33 = .ok (.iload 4, 2) := by decide +kernel
theorem dX8_damp_35 : decode cX8_damp 35 = .ok (.bipush 20, 2) := by decide +kernel
theorem dX8_damp_37 : decode cX8_damp 37 = .ok (.if_icmp .le 7, 3) := by decide +kernel
theorem dX8_damp_40 : decode cX8_damp 40 = .ok (.iconst 1, 1) := by decide +kernel
theorem dX8_damp_41 : decode cX8_damp 41 = .ok (.goto 4, 3) := by decide +kernel
theorem dX8_damp_44 : decode cX8_damp 44 = .ok (.iconst 0, 1) := by decide +kernel
theorem dX8_damp_45 : decode cX8_damp 45 = .ok (.istore 7, 2) := by decide +kernel
theorem dX8_damp_47 : decode cX8_damp 47 = .ok (.aload_n 0, 1) := by decide +kernel
theorem dX8_damp_48 : decode cX8_damp 48 = .ok (.iload_n 1, 1) := by decide +kernel
theorem dX8_damp_49 : decode cX8_damp 49 = .ok (.invokevirtual 81, 3) := by decide +kernel
theorem dX8_damp_52 : decode cX8_damp 52 = .ok (.ifCond .ne 7, 3) := by decide +kernel
theorem dX8_damp_55 : decode cX8_damp 55 = .ok (.iconst 1, 1) := by decide +kernel
theorem dX8_damp_56 : decode cX8_damp 56 = .ok (.goto 4, 3) := by decide +kernel
theorem dX8_damp_59 : decode cX8_damp 59 = .ok (.iconst 0, 1) := by decide +kernel
theorem dX8_damp_60 : decode cX8_damp 60 = .ok (.iload 6, 2) := by decide +kernel
theorem dX8_damp_62 : decode cX8_damp 62 = .ok (.iload 7, 2) := by decide +kernel
theorem dX8_damp_64 : decode cX8_damp 64 = .ok (.iload 5, 2) := by decide +kernel
theorem dX8_damp_66 : decode cX8_damp 66 = .ok (.invokestatic 192, 3) := by decide +kernel
theorem dX8_damp_69 : decode cX8_damp 69 = .ok (.ifCond .ne 7, 3) := by decide +kernel
theorem dX8_damp_72 : decode cX8_damp 72 = .ok (.iconst 1, 1) := by decide +kernel
theorem dX8_damp_73 : decode cX8_damp 73 = .ok (.goto 4, 3) := by decide +kernel
theorem dX8_damp_76 : decode cX8_damp 76 = .ok (.iconst 0, 1) := by decide +kernel
theorem dX8_damp_77 : decode cX8_damp 77 = .ok (.invokestatic 50, 3) := by decide +kernel
theorem dX8_damp_80 : decode cX8_damp 80 = .ok (.istore 8, 2) := by decide +kernel
theorem dX8_damp_82 : decode cX8_damp 82 = .ok (.iload 8, 2) := by decide +kernel
theorem dX8_damp_84 : decode cX8_damp 84 = .ok (.ifCond .eq 15, 3) := by decide +kernel
theorem dX8_damp_87 : decode cX8_damp 87 = .ok (.ldc2_w 241, 3) := by decide +kernel
theorem dX8_damp_90 : decode cX8_damp 90 = .ok (.aload_n 0, 1) := by decide +kernel
theorem dX8_damp_91 : decode cX8_damp 91 = .ok (.iload 8, 2) := by decide +kernel
theorem dX8_damp_93 : decode cX8_damp 93 = .ok (.invokevirtual 54, 3) := by decide +kernel
theorem dX8_damp_96 : decode cX8_damp 96 = .ok (.i2l, 1) := by decide +kernel
theorem dX8_damp_97 : decode cX8_damp 97 = .ok (.lsub, 1) := by decide +kernel
theorem dX8_damp_98 : decode cX8_damp 98 = .ok (.lreturn, 1) := by decide +kernel
theorem dX8_damp_99 : decode cX8_damp 99 = .ok (.aload_n 0, 1) := by decide +kernel
theorem dX8_damp_100 : decode cX8_damp 100 = .ok (.getfield 42, 3) := by decide +kernel
theorem dX8_damp_103 : decode cX8_damp 103 = .ok (.iload_n 1, 1) := by decide +kernel
theorem dX8_damp_104 : decode cX8_damp 104 = .ok (.iload_n 2, 1) := by decide +kernel
theorem dX8_damp_105 : decode cX8_damp 105 = .ok (.iload_n 3, 1) := by decide +kernel
theorem dX8_damp_106 : decode cX8_damp 106 = .ok (.iload 4, 2) := by decide +kernel
theorem dX8_damp_108 : decode cX8_damp 108 = .ok (.invokevirtual 243, 3) := by decide +kernel
theorem dX8_damp_111 : decode cX8_damp 111 = .ok (.iload 4, 2) := by decide +kernel
theorem dX8_damp_113 : decode cX8_damp 113 = .ok (.iload_n 3, 1) := by decide +kernel
theorem dX8_damp_114 : decode cX8_damp 114 = .ok (.invokestatic 247, 3) := by decide +kernel
theorem dX8_damp_117 : decode cX8_damp 117 = .ok (.iload 5, 2) := by decide +kernel
theorem dX8_damp_119 : decode cX8_damp 119 = .ok (.invokestatic 253, 3) := by decide +kernel
theorem dX8_damp_122 : decode cX8_damp 122 = .ok (.lreturn, 1) := by decide +kernel
theorem dX8_reach_0 : decode cX8_reach 0 = .ok (.aload_n 0, 1) := by decide +kernel
theorem dX8_reach_1 : decode cX8_reach 1 = .ok (.iload_n 1, 1) := by decide +kernel
theorem dX8_reach_2 : decode cX8_reach 2 = .ok (.invokevirtual 81, 3) := by decide +kernel
theorem dX8_reach_5 : decode cX8_reach 5 = .ok (.ifCond .ne 7, 3) := by decide +kernel
theorem dX8_reach_8 : decode cX8_reach 8 = .ok (.iconst 1, 1) := by decide +kernel
theorem dX8_reach_9 : decode cX8_reach 9 = .ok (.goto 4, 3) := by decide +kernel
theorem dX8_reach_12 : decode cX8_reach 12 = .ok (.iconst 0, 1) := by decide +kernel
theorem dX8_reach_13 : decode cX8_reach 13 = .ok (.iconst 0, 1) := by decide +kernel
theorem dX8_reach_14 : decode cX8_reach 14 = .ok (.iconst 0, 1) := by decide +kernel
theorem dX8_reach_15 : decode cX8_reach 15 = .ok (.iload_n 2, 1) := by decide +kernel
theorem dX8_reach_16 : decode cX8_reach 16 = .ok (.invokestatic 192, 3) := by decide +kernel
theorem dX8_reach_19 : decode cX8_reach 19 = .ok (.ifCond .ne 7, 3) := by decide +kernel
theorem dX8_reach_22 : decode cX8_reach 22 = .ok (.iconst 1, 1) := by decide +kernel
theorem dX8_reach_23 : decode cX8_reach 23 = .ok (.goto 4, 3) := by decide +kernel
theorem dX8_reach_26 : decode cX8_reach 26 = .ok (.iconst 0, 1) := by decide +kernel
theorem dX8_reach_27 : decode cX8_reach 27 = .ok (.invokestatic 50, 3) := by decide +kernel
theorem dX8_reach_30 : decode cX8_reach 30 = .ok (.istore_n 3, 1) := by decide +kernel
theorem dX8_reach_31 : decode cX8_reach 31 = .ok (.iload_n 3, 1) := by decide +kernel
theorem dX8_reach_32 : decode cX8_reach 32 = .ok (.ifCond .eq 9, 3) := by decide +kernel
theorem dX8_reach_35 : decode cX8_reach 35 = .ok (.aload_n 0, 1) := by decide +kernel
theorem dX8_reach_36 : decode cX8_reach 36 = .ok (.iload_n 3, 1) := by decide +kernel
theorem dX8_reach_37 : decode cX8_reach 37 = .ok (.invokevirtual 54, 3) := by decide +kernel
theorem dX8_reach_40 : decode cX8_reach 40 = .ok (.ireturn, 1) := by decide +kernel
theorem dX8_reach_41 : decode cX8_reach 41 = .ok (.iload_n 2, 1) := by decide +kernel
theorem dX8_reach_42 : decode cX8_reach 42 = .ok (.ifCond .ne 14, 3) := by decide +kernel
theorem dX8_reach_45 : decode cX8_reach 45 = .ok (.aload_n 0, 1) := by decide +kernel
theorem dX8_reach_46 : decode cX8_reach 46 = .ok (.getfield 33, 3) := by decide +kernel
theorem dX8_reach_49 : decode cX8_reach 49 = .ok (.iload_n 1, 1) := by decide +kernel
theorem dX8_reach_50 : decode cX8_reach 50 = .ok (.invokevirtual 257, 3) := by decide +kernel
theorem dX8_reach_53 : decode cX8_reach 53 = .ok (.goto 11, 3) := by decide +kernel
theorem dX8_reach_56 : decode cX8_reach 56 = .ok (.aload_n 0, 1) := by decide +kernel
theorem dX8_reach_57 : decode cX8_reach 57 = .ok (.getfield 33, 3) := by decide +kernel
theorem dX8_reach_60 : decode cX8_reach 60 = .ok (.iload_n 1, 1) := by decide +kernel
theorem dX8_reach_61 : decode cX8_reach 61 = .ok (.invokevirtual 260, 3) := by decide +kernel
theorem dX8_reach_64 : decode cX8_reach 64 = .ok (.ireturn, 1) := by decide +kernel
theorem dX8_common_0 : decode cX8_common 0 = .ok (.aload_n 0, 1) := by decide +kernel
theorem dX8_common_1 : decode cX8_common 1 = .ok (.iload_n 1, 1) := by decide +kernel
theorem dX8_common_2 : decode cX8_common 2 = .ok (.iload_n 2, 1) := by decide +kernel
theorem dX8_common_3 : decode cX8_common 3 = .ok (.invokevirtual 235, 3) := by decide +kernel
theorem dX8_common_6 : decode cX8_common 6 = .ok (.ifCond .ne 7, 3) := by decide +kernel
theorem dX8_common_9 : decode cX8_common 9 = .ok (.iconst 1, 1) := by decide +kernel
theorem dX8_common_10 : decode cX8_common 10 = .ok (.goto 4, 3) := by decide +kernel
theorem dX8_common_13 : decode cX8_common 13 = .ok (.iconst 0, 1) := by decide +kernel
theorem dX8_common_14 : decode cX8_common 14 = .ok (.iconst 0, 1) := by decide +kernel
theorem dX8_common_15 : decode cX8_common 15 = .ok (.iconst 0, 1) := by decide +kernel
theorem dX8_common_16 : decode cX8_common 16 = .ok (.iload_n 3, 1) := by decide +kernel
theorem dX8_common_17 : decode cX8_common 17 = .ok (.ifCond .lt 8, 3) := by decide +kernel
theorem dX8_common_20 : decode cX8_common 20 = .ok (.iload_n 3, 1) := by decide +kernel
theorem dX8_common_21 : decode cX8_common 21 = .ok (.iconst 2, 1) := by decide +kernel
theorem dX8_common_22 : decode cX8_common 22 = .ok (.if_icmp .le 7, 3) := by decide +kernel
theorem dX8_common_25 : decode cX8_common 25 = .ok (.iconst 1, 1) := by decide +kernel
theorem dX8_common_26 : decode cX8_common 26 = .ok (.goto 4, 3) := by decide +kernel
theorem dX8_common_29 : decode cX8_common 29 = .ok (.iconst 0, 1) := by decide +kernel
theorem dX8_common_30 : decode cX8_common 30 = .ok (.invokestatic 50, 3) := by decide +kernel
theorem dX8_common_33 : decode cX8_common 33 = .ok (.istore 4, 2) := by decide +kernel
theorem dX8_common_35 : decode cX8_common 35 = .ok (.iload 4, 2) := by decide +kernel
theorem dX8_common_37 : decode cX8_common 37 = .ok (.ifCond .eq 10, 3) := by decide +kernel
theorem dX8_common_40 : decode cX8_common 40 = .ok (.aload_n 0, 1) := by decide +kernel
theorem dX8_common_41 : decode cX8_common 41 = .ok (.iload 4, 2) := by decide +kernel
theorem dX8_common_43 : decode cX8_common 43 = .ok (.invokevirtual 54, 3) := by decide +kernel
theorem dX8_common_46 : decode cX8_common 46 = .ok (.ireturn, 1) := by decide +kernel
theorem dX8_common_47 : decode cX8_common 47 = .ok (.aload_n 0, 1) := by decide +kernel
theorem dX8_common_48 : decode cX8_common 48 = .ok (.getfield 33, 3) := by decide +kernel
theorem dX8_common_51 : decode cX8_common 51 = .ok (.iload_n 1, 1) := by decide +kernel
theorem dX8_common_52 : decode cX8_common 52 = .ok (.invokevirtual 96, 3) := by decide +kernel
theorem dX8_common_55 : decode cX8_common 55 = .ok (.lstore 5, 2) := by decide +kernel
theorem dX8_common_57 : decode cX8_common 57 = .ok (.aload_n 0, 1) := by decide +kernel
theorem dX8_common_58 : decode cX8_common 58 = .ok (.getfield 33, 3) := by decide +kernel
theorem dX8_common_61 : decode cX8_common 61 = .ok (.iload_n 2, 1) := by decide +kernel
theorem dX8_common_62 : decode cX8_common 62 = .ok (.invokevirtual 96, 3) := by decide +kernel
theorem dX8_common_65 : decode cX8_common 65 = .ok (.lstore 7, 2) := by decide +kernel
theorem dX8_common_67 : decode cX8_common 67 = .ok (.iload_n 3, 1) := by decide +kernel
theorem dX8_common_68 : decode cX8_common 68 = .ok (.ifCond .ne 12, 3) := by decide +kernel
theorem dX8_common_71 : decode cX8_common 71 = .ok (.lload 5, 2) := by decide +kernel
theorem dX8_common_73 : decode cX8_common 73 = .ok (.lload 7, 2) := by decide +kernel
theorem dX8_common_75 : decode cX8_common 75 = .ok (.land, 1) := by decide +kernel
theorem dX8_common_76 : decode cX8_common 76 = .ok (.invokestatic 167, 3) := by decide +kernel
theorem dX8_common_79 : decode cX8_common 79 = .ok (.ireturn, 1) := by decide +kernel
theorem dX8_common_80 : decode cX8_common 80 = .ok (.iload_n 3, 1) := by decide +kernel
theorem dX8_common_81 : decode cX8_common 81 = .ok (.iconst 1, 1) := by decide +kernel
theorem dX8_common_82 : decode cX8_common 82 = .ok (.if_icmp .ne 11, 3) := by decide +kernel
theorem dX8_common_85 : decode cX8_common 85 = .ok (.lload 5, 2) := by decide +kernel
theorem dX8_common_87 : decode cX8_common 87 = .ok (.lload 7, 2) := by decide +kernel
theorem dX8_common_89 : decode cX8_common 89 = .ok (.lor, 1) := by decide +kernel
theorem dX8_common_90 : decode cX8_common 90 = .ok (.goto 12, 3) := by decide +kernel
theorem dX8_common_93 : decode cX8_common 93 = .ok (.lload 5, 2) := by decide +kernel
theorem dX8_common_95 : decode cX8_common 95 = .ok (.lload 7, 2) := by decide +kernel
theorem dX8_common_97 : decode cX8_common 97 = .ok (.ldc2_w 263, 3) := by decide +kernel
theorem dX8_common_100 : decode cX8_common 100 = .ok (.lxor, 1) := by decide +kernel
theorem dX8_common_101 : decode cX8_common 101 = .ok (.land, 1) := by decide +kernel
theorem dX8_common_102 : decode cX8_common 102 = .ok (.invokestatic 167, 3) := by decide +kernel
theorem dX8_common_105 : decode cX8_common 105 = .ok (.ireturn, 1) := by decide +kernel
theorem dX8_rarest_0 : decode cX8_rarest 0 = .ok (.iload_n 1, 1) := by decide +kernel
theorem dX8_rarest_1 : decode cX8_rarest 1 = .ok (.ifCond .lt 8, 3) := by decide +kernel
theorem dX8_rarest_4 : decode cX8_rarest 4 = .ok (.iload_n 1, 1) := by decide +kernel
theorem dX8_rarest_5 : decode cX8_rarest 5 = .ok (.iconst 2, 1) := by decide +kernel
theorem dX8_rarest_6 : decode cX8_rarest 6 = .ok (.if_icmp .le 10, 3) := by decide +kernel
theorem dX8_rarest_9 : decode cX8_rarest 9 = .ok (.aload_n 0, 1) := by decide +kernel
theorem dX8_rarest_10 : decode cX8_rarest 10 = .ok (.bipush (-2), 2) := by decide +kernel
theorem dX8_rarest_12 : decode cX8_rarest 12 = .ok (.invokevirtual 54, 3) := by decide +kernel
theorem dX8_rarest_15 : decode cX8_rarest 15 = .ok (.ireturn, 1) := by decide +kernel
theorem dX8_rarest_16 : decode cX8_rarest 16 = .ok (.aload_n 0, 1) := by decide +kernel
theorem dX8_rarest_17 : decode cX8_rarest 17 = .ok (.getfield 33, 3) := by decide +kernel
theorem dX8_rarest_20 : decode cX8_rarest 20 = .ok (.invokevirtual 265, 3) := by decide +kernel
theorem dX8_rarest_23 : decode cX8_rarest 23 = .ok (.istore_n 2, 1) := by decide +kernel
theorem dX8_rarest_24 : decode cX8_rarest 24 = .ok (.iload_n 1, 1) := by decide +kernel
theorem dX8_rarest_25 : decode cX8_rarest 25 = .ok (.ifCond .ne 5, 3) := by decide +kernel
theorem dX8_rarest_28 : decode cX8_rarest 28 = .ok (.iload_n 2, 1) := by decide +kernel
theorem dX8_rarest_29 : decode cX8_rarest 29 = .ok (.ireturn, 1) := by decide +kernel
theorem dX8_rarest_30 : decode cX8_rarest 30 = .ok (.iload_n 1, 1) := by decide +kernel
theorem dX8_rarest_31 : decode cX8_rarest 31 = .ok (.iconst 1, 1) := by decide +kernel
theorem dX8_rarest_32 : decode cX8_rarest 32 = .ok (.if_icmp .ne 14, 3) := by decide +kernel
theorem dX8_rarest_35 : decode cX8_rarest 35 = .ok (.aload_n 0, 1) := by decide +kernel
theorem dX8_rarest_36 : decode cX8_rarest 36 = .ok (.getfield 33, 3) := by decide +kernel
theorem dX8_rarest_39 : decode cX8_rarest 39 = .ok (.iload_n 2, 1) := by decide +kernel
theorem dX8_rarest_40 : decode cX8_rarest 40 = .ok (.invokevirtual 269, 3) := by decide +kernel
theorem dX8_rarest_43 : decode cX8_rarest 43 = .ok (.goto 16, 3) := by decide +kernel
theorem dX8_rarest_46 : decode cX8_rarest 46 = .ok (.bipush 40, 2) := by decide +kernel
theorem dX8_rarest_48 : decode cX8_rarest 48 = .ok (.aload_n 0, 1) := by decide +kernel
theorem dX8_rarest_49 : decode cX8_rarest 49 = .ok (.getfield 33, 3) := by decide +kernel
theorem dX8_rarest_52 : decode cX8_rarest 52 = .ok (.invokevirtual 272, 3) := by decide +kernel
theorem dX8_rarest_55 : decode cX8_rarest 55 = .ok (.invokestatic 167, 3) := by decide +kernel
theorem dX8_rarest_58 : decode cX8_rarest 58 = .ok (.isub, 1) := by decide +kernel
theorem dX8_rarest_59 : decode cX8_rarest 59 = .ok (.ireturn, 1) := by decide +kernel
theorem dX8_share_0 : decode cX8_share 0 = .ok (.iload_n 1, 1) := by decide +kernel
theorem dX8_share_1 : decode cX8_share 1 = .ok (.invokestatic 192, 3) := by decide +kernel
theorem dX8_share_4 : decode cX8_share 4 = .ok (.ifCond .ne 15, 3) := by decide +kernel
theorem dX8_share_7 : decode cX8_share 7 = .ok (.ldc2_w 241, 3) := by decide +kernel
theorem dX8_share_10 : decode cX8_share 10 = .ok (.aload_n 0, 1) := by decide +kernel
theorem dX8_share_11 : decode cX8_share 11 = .ok (.bipush (-2), 2) := by decide +kernel
theorem dX8_share_13 : decode cX8_share 13 = .ok (.invokevirtual 54, 3) := by decide +kernel
theorem dX8_share_16 : decode cX8_share 16 = .ok (.i2l, 1) := by decide +kernel
theorem dX8_share_17 : decode cX8_share 17 = .ok (.lsub, 1) := by decide +kernel
theorem dX8_share_18 : decode cX8_share 18 = .ok (.lreturn, 1) := by decide +kernel
theorem dX8_share_19 : decode cX8_share 19 = .ok (.aload_n 0, 1) := by decide +kernel
theorem dX8_share_20 : decode cX8_share 20 = .ok (.getfield 33, 3) := by decide +kernel
theorem dX8_share_23 : decode cX8_share 23 = .ok (.getfield 164, 3) := by decide +kernel
theorem dX8_share_26 : decode cX8_share 26 = .ok (.invokestatic 167, 3) := by decide +kernel
theorem dX8_share_29 : decode cX8_share 29 = .ok (.istore_n 2, 1) := by decide +kernel
theorem dX8_share_30 : decode cX8_share 30 = .ok (.aload_n 0, 1) := by decide +kernel
theorem dX8_share_31 : decode cX8_share 31 = .ok (.getfield 33, 3) := by decide +kernel
theorem dX8_share_34 : decode cX8_share 34 = .ok (.getfield 164, 3) := by decide +kernel
theorem dX8_share_37 : decode cX8_share 37 = .ok (.aload_n 0, 1) := by decide +kernel
theorem dX8_share_38 : decode cX8_share 38 = .ok (.getfield 33, 3) := by decide +kernel
theorem dX8_share_41 : decode cX8_share 41 = .ok (.invokevirtual 272, 3) := by decide +kernel
theorem dX8_share_44 : decode cX8_share 44 = .ok (.lor, 1) := by decide +kernel
theorem dX8_share_45 : decode cX8_share 45 = .ok (.invokestatic 167, 3) := by decide +kernel
theorem dX8_share_48 : decode cX8_share 48 = .ok (.istore_n 3, 1) := by decide +kernel
theorem dX8_share_49 : decode cX8_share 49 = .ok (.iload_n 2, 1) := by decide +kernel
theorem dX8_share_50 : decode cX8_share 50 = .ok (.i2l, 1) := by decide +kernel
theorem dX8_share_51 : decode cX8_share 51 = .ok (.iload_n 3, 1) := by decide +kernel
theorem dX8_share_52 : decode cX8_share 52 = .ok (.i2l, 1) := by decide +kernel
theorem dX8_share_53 : decode cX8_share 53 = .ok (.iload_n 1, 1) := by decide +kernel
theorem dX8_share_54 : decode cX8_share 54 = .ok (.invokestatic 253, 3) := by decide +kernel
theorem dX8_share_57 : decode cX8_share 57 = .ok (.lreturn, 1) := by decide +kernel
theorem dX8_lamp_0 : decode cX8_lamp 0 = .ok (.aload_n 0, 1) := by decide +kernel
theorem dX8_lamp_1 : decode cX8_lamp 1 = .ok (.iload_n 1, 1) := by decide +kernel
theorem dX8_lamp_2 : decode cX8_lamp 2 = .ok (.invokevirtual 106, 3) := by decide +kernel
theorem dX8_lamp_5 : decode cX8_lamp 5 = .ok (.ifCond .eq 11, 3) := by decide +kernel
theorem dX8_lamp_8 : decode cX8_lamp 8 = .ok (.iload_n 1, 1) := by decide +kernel
theorem dX8_lamp_9 : decode cX8_lamp 9 = .ok (.iconst 3, 1) := by decide +kernel
theorem dX8_lamp_10 : decode cX8_lamp 10 = .ok (.idiv, 1) := by decide +kernel
theorem dX8_lamp_11 : decode cX8_lamp 11 = .ok (.iconst 1, 1) := by decide +kernel
theorem dX8_lamp_12 : decode cX8_lamp 12 = .ok (.iadd, 1) := by decide +kernel
theorem dX8_lamp_13 : decode cX8_lamp 13 = .ok (.goto 8, 3) := by decide +kernel
theorem dX8_lamp_16 : decode cX8_lamp 16 = .ok (.aload_n 0, 1) := by decide +kernel
theorem dX8_lamp_17 : decode cX8_lamp 17 = .ok (.iconst (-1), 1) := by decide +kernel
theorem dX8_lamp_18 : decode cX8_lamp 18 = .ok (.invokevirtual 54, 3) := by decide +kernel
theorem dX8_lamp_21 : decode cX8_lamp 21 = .ok (.ireturn, 1) := by decide +kernel
theorem dX8_bag_0 : decode cX8_bag 0 = .ok (.iload_n 1, 1) := by decide +kernel
theorem dX8_bag_1 : decode cX8_bag 1 = .ok (.ifCond .lt 8, 3) := by decide +kernel
theorem dX8_bag_4 : decode cX8_bag 4 = .ok (.iload_n 1, 1) := by decide +kernel
theorem dX8_bag_5 : decode cX8_bag 5 = .ok (.iconst 2, 1) := by decide +kernel
theorem dX8_bag_6 : decode cX8_bag 6 = .ok (.if_icmp .le 10, 3) := by decide +kernel
theorem dX8_bag_9 : decode cX8_bag 9 = .ok (.aload_n 0, 1) := by decide +kernel
theorem dX8_bag_10 : decode cX8_bag 10 = .ok (.bipush (-2), 2) := by decide +kernel
theorem dX8_bag_12 : decode cX8_bag 12 = .ok (.invokevirtual 54, 3) := by decide +kernel
theorem dX8_bag_15 : decode cX8_bag 15 = .ok (.ireturn, 1) := by decide +kernel
theorem dX8_bag_16 : decode cX8_bag 16 = .ok (.iload_n 1, 1) := by decide +kernel
theorem dX8_bag_17 : decode cX8_bag 17 = .ok (.ifCond .ne 14, 3) := by decide +kernel
theorem dX8_bag_20 : decode cX8_bag 20 = .ok (.aload_n 0, 1) := by decide +kernel
theorem dX8_bag_21 : decode cX8_bag 21 = .ok (.getfield 42, 3) := by decide +kernel
theorem dX8_bag_24 : decode cX8_bag 24 = .ok (.invokevirtual 61, 3) := by decide +kernel
theorem dX8_bag_27 : decode cX8_bag 27 = .ok (.invokevirtual 276, 3) := by decide +kernel
theorem dX8_bag_30 : decode cX8_bag 30 = .ok (.ireturn, 1) := by decide +kernel
theorem dX8_bag_31 : decode cX8_bag 31 = .ok (.iload_n 1, 1) := by decide +kernel
theorem dX8_bag_32 : decode cX8_bag 32 = .ok (.iconst 1, 1) := by decide +kernel
theorem dX8_bag_33 : decode cX8_bag 33 = .ok (.if_icmp .ne 13, 3) := by decide +kernel
theorem dX8_bag_36 : decode cX8_bag 36 = .ok (.aload_n 0, 1) := by decide +kernel
theorem dX8_bag_37 : decode cX8_bag 37 = .ok (.getfield 42, 3) := by decide +kernel
theorem dX8_bag_40 : decode cX8_bag 40 = .ok (.invokevirtual 279, 3) := by decide +kernel
theorem dX8_bag_43 : decode cX8_bag 43 = .ok (.goto 13, 3) := by decide +kernel
theorem dX8_bag_46 : decode cX8_bag 46 = .ok (.aload_n 0, 1) := by decide +kernel
theorem dX8_bag_47 : decode cX8_bag 47 = .ok (.getfield 33, 3) := by decide +kernel
theorem dX8_bag_50 : decode cX8_bag 50 = .ok (.getfield 109, 3) := by decide +kernel
theorem dX8_bag_53 : decode cX8_bag 53 = .ok (.invokevirtual 282, 3) := by decide +kernel
theorem dX8_bag_56 : decode cX8_bag 56 = .ok (.ireturn, 1) := by decide +kernel
theorem dX8_kinds_0 : decode cX8_kinds 0 = .ok (.iload_n 1, 1) := by decide +kernel
theorem dX8_kinds_1 : decode cX8_kinds 1 = .ok (.invokestatic 118, 3) := by decide +kernel
theorem dX8_kinds_4 : decode cX8_kinds 4 = .ok (.ifCond .eq 14, 3) := by decide +kernel
theorem dX8_kinds_7 : decode cX8_kinds 7 = .ok (.aload_n 0, 1) := by decide +kernel
theorem dX8_kinds_8 : decode cX8_kinds 8 = .ok (.getfield 33, 3) := by decide +kernel
theorem dX8_kinds_11 : decode cX8_kinds 11 = .ok (.iload_n 1, 1) := by decide +kernel
theorem dX8_kinds_12 : decode cX8_kinds 12 = .ok (.invokevirtual 285, 3) := by decide +kernel
theorem dX8_kinds_15 : decode cX8_kinds 15 = .ok (.goto 9, 3) := by decide +kernel
theorem dX8_kinds_18 : decode cX8_kinds 18 = .ok (.aload_n 0, 1) := by decide +kernel
theorem dX8_kinds_19 : decode cX8_kinds 19 = .ok (.bipush (-2), 2) := by decide +kernel
theorem dX8_kinds_21 : decode cX8_kinds 21 = .ok (.invokevirtual 54, 3) := by decide +kernel
theorem dX8_kinds_24 : decode cX8_kinds 24 = .ok (.ireturn, 1) := by decide +kernel
theorem dX8_row_0 : decode cX8_row 0 = .ok (.iconst 0, 1) := by decide +kernel
theorem dX8_row_1 : decode cX8_row 1 = .ok (.iload_n 1, 1) := by decide +kernel
theorem dX8_row_2 : decode cX8_row 2 = .ok (.ifCond .ge 7, 3) := by decide +kernel
theorem dX8_row_5 : decode cX8_row 5 = .ok (.iconst 1, 1) := by decide +kernel
theorem dX8_row_6 : decode cX8_row 6 = .ok (.goto 4, 3) := by decide +kernel
theorem dX8_row_9 : decode cX8_row 9 = .ok (.iconst 0, 1) := by decide +kernel
theorem dX8_row_10 : decode cX8_row 10 = .ok (.iload_n 1, 1) := by decide +kernel
theorem dX8_row_11 : decode cX8_row 11 = .ok (.bipush 99, 2) := by decide +kernel
theorem dX8_row_13 : decode cX8_row 13 = .ok (.if_icmp .gt 12, 3) := by decide +kernel
theorem dX8_row_16 : decode cX8_row 16 = .ok (.aload_n 0, 1) := by decide +kernel
theorem dX8_row_17 : decode cX8_row 17 = .ok (.getfield 228, 3) := by decide +kernel
theorem dX8_row_20 : decode cX8_row 20 = .ok (.bipush 12, 2) := by decide +kernel
theorem dX8_row_22 : decode cX8_row 22 = .ok (.if_icmp .lt 7, 3) := by decide +kernel
theorem dX8_row_25 : decode cX8_row 25 = .ok (.iconst 1, 1) := by decide +kernel
theorem dX8_row_26 : decode cX8_row 26 = .ok (.goto 4, 3) := by decide +kernel
theorem dX8_row_29 : decode cX8_row 29 = .ok (.iconst 0, 1) := by decide +kernel
theorem dX8_row_30 : decode cX8_row 30 = .ok (.iconst 0, 1) := by decide +kernel
theorem dX8_row_31 : decode cX8_row 31 = .ok (.invokestatic 50, 3) := by decide +kernel
theorem dX8_row_34 : decode cX8_row 34 = .ok (.istore_n 2, 1) := by decide +kernel
theorem dX8_row_35 : decode cX8_row 35 = .ok (.iload_n 2, 1) := by decide +kernel
theorem dX8_row_36 : decode cX8_row 36 = .ok (.ifCond .eq 9, 3) := by decide +kernel
theorem dX8_row_39 : decode cX8_row 39 = .ok (.aload_n 0, 1) := by decide +kernel
theorem dX8_row_40 : decode cX8_row 40 = .ok (.iload_n 2, 1) := by decide +kernel
theorem dX8_row_41 : decode cX8_row 41 = .ok (.invokevirtual 54, 3) := by decide +kernel
theorem dX8_row_44 : decode cX8_row 44 = .ok (.ireturn, 1) := by decide +kernel
theorem dX8_row_45 : decode cX8_row 45 = .ok (.aload_n 0, 1) := by decide +kernel
theorem dX8_row_46 : decode cX8_row 46 = .ok (.getfield 23, 3) := by decide +kernel
theorem dX8_row_49 : decode cX8_row 49 = .ok (.aload_n 0, 1) := by decide +kernel
theorem dX8_row_50 : decode cX8_row 50 = .ok (.getfield 228, 3) := by decide +kernel
theorem dX8_row_53 : decode cX8_row 53 = .ok (.iload_n 1, 1) := by decide +kernel
theorem dX8_row_54 : decode cX8_row 54 = .ok (.iastore, 1) := by decide +kernel
theorem dX8_row_55 : decode cX8_row 55 = .ok (.aload_n 0, 1) := by decide +kernel
theorem dX8_row_56 : decode cX8_row 56 = .ok (.dup, 1) := by decide +kernel
theorem dX8_row_57 : decode cX8_row 57 = .ok (.getfield 228, 3) := by decide +kernel
theorem dX8_row_60 : decode cX8_row 60 = .ok (.iconst 1, 1) := by decide +kernel
theorem dX8_row_61 : decode cX8_row 61 = .ok (.iadd, 1) := by decide +kernel
theorem dX8_row_62 : decode cX8_row 62 = .ok (.putfield 228, 3) := by decide +kernel
theorem dX8_row_65 : decode cX8_row 65 = .ok (.aload_n 0, 1) := by decide +kernel
theorem dX8_row_66 : decode cX8_row 66 = .ok (.getfield 228, 3) := by decide +kernel
theorem dX8_row_69 : decode cX8_row 69 = .ok (.ireturn, 1) := by decide +kernel
theorem dX8_judge_0 : decode cX8_judge 0 = .ok (.bipush (-9), 2) := by decide +kernel
theorem dX8_judge_2 : decode cX8_judge 2 = .ok (.istore_n 1, 1) := by decide +kernel
theorem dX8_judge_3 : decode cX8_judge 3 = .ok (.iconst 0, 1) := by decide +kernel
theorem dX8_judge_4 : decode cX8_judge 4 = .ok (.istore_n 2, 1) := by decide +kernel
theorem dX8_judge_5 : decode cX8_judge 5 = .ok (.iload_n 2, 1) := by decide +kernel
theorem dX8_judge_6 : decode cX8_judge 6 = .ok (.aload_n 0, 1) := by decide +kernel
theorem dX8_judge_7 : decode cX8_judge 7 = .ok (.getfield 228, 3) := by decide +kernel
theorem dX8_judge_10 : decode cX8_judge 10 = .ok (.if_icmp .ge 45, 3) := by decide +kernel
theorem dX8_judge_13 : decode cX8_judge 13 = .ok (.iload_n 1, 1) := by decide +kernel
theorem dX8_judge_14 : decode cX8_judge 14 = .ok (.bipush (-9), 2) := by decide +kernel
theorem dX8_judge_16 : decode cX8_judge 16 = .ok (.if_icmp .ne 39, 3) := by decide +kernel
theorem dX8_judge_19 : decode cX8_judge 19 = .ok (.aload_n 0, 1) := by decide +kernel
theorem dX8_judge_20 : decode cX8_judge 20 = .ok (.iload_n 2, 1) := by decide +kernel
theorem dX8_judge_21 : decode cX8_judge 21 = .ok (.invokevirtual 81, 3) := by decide +kernel
theorem dX8_judge_24 : decode cX8_judge 24 = .ok (.ifCond .eq 23, 3) := by decide +kernel
theorem dX8_judge_27 : decode cX8_judge 27 = .ok (.aload_n 0, 1) := by decide +kernel
theorem dX8_judge_28 : decode cX8_judge 28 = .ok (.getfield 33, 3) := by decide +kernel
theorem dX8_judge_31 : decode cX8_judge 31 = .ok (.iload_n 2, 1) := by decide +kernel
theorem dX8_judge_32 : decode cX8_judge 32 = .ok (.invokevirtual 96, 3) := by decide +kernel
theorem dX8_judge_35 : decode cX8_judge 35 = .ok (.invokestatic 167, 3) := by decide +kernel
theorem dX8_judge_38 : decode cX8_judge 38 = .ok (.aload_n 0, 1) := by decide +kernel
theorem dX8_judge_39 : decode cX8_judge 39 = .ok (.getfield 23, 3) := by decide +kernel
theorem dX8_judge_42 : decode cX8_judge 42 = .ok (.iload_n 2, 1) := by decide +kernel
theorem dX8_judge_43 : decode cX8_judge 43 = .ok (.iaload, 1) := by decide +kernel
theorem dX8_judge_44 : decode cX8_judge 44 = .ok (.if_icmp .eq 5, 3) := by decide +kernel
theorem dX8_judge_47 : decode cX8_judge 47 = .ok (.iload_n 2, 1) := by decide +kernel
theorem dX8_judge_48 : decode cX8_judge 48 = .ok (.istore_n 1, 1) := by decide +kernel
theorem dX8_judge_49 : decode cX8_judge 49 = .ok (.iinc 2 1, 3) := by decide +kernel
theorem dX8_judge_52 : decode cX8_judge 52 = .ok (.goto (-47), 3) := by decide +kernel
theorem dX8_judge_55 : decode cX8_judge 55 = .ok (.aload_n 0, 1) := by decide +kernel
theorem dX8_judge_56 : decode cX8_judge 56 = .ok (.iconst 0, 1) := by decide +kernel
theorem dX8_judge_57 : decode cX8_judge 57 = .ok (.putfield 228, 3) := by decide +kernel
theorem dX8_judge_60 : decode cX8_judge 60 = .ok (.iload_n 1, 1) := by decide +kernel
theorem dX8_judge_61 : decode cX8_judge 61 = .ok (.ireturn, 1) := by decide +kernel
theorem dX8_clear_0 : decode cX8_clear 0 = .ok (.aload_n 0, 1) := by decide +kernel
theorem dX8_clear_1 : decode cX8_clear 1 = .ok (.getfield 228, 3) := by decide +kernel
theorem dX8_clear_4 : decode cX8_clear 4 = .ok (.istore_n 1, 1) := by decide +kernel
theorem dX8_clear_5 : decode cX8_clear 5 = .ok (.aload_n 0, 1) := by decide +kernel
theorem dX8_clear_6 : decode cX8_clear 6 = .ok (.iconst 0, 1) := by decide +kernel
theorem dX8_clear_7 : decode cX8_clear 7 = .ok (.putfield 228, 3) := by decide +kernel
theorem dX8_clear_10 : decode cX8_clear 10 = .ok (.iload_n 1, 1) := by decide +kernel
theorem dX8_clear_11 : decode cX8_clear 11 = .ok (.ireturn, 1) := by decide +kernel
theorem dX8_lots_0 : decode cX8_lots 0 = .ok (.iconst 0, 1) := by decide +kernel
theorem dX8_lots_1 : decode cX8_lots 1 = .ok (.iload_n 1, 1) := by decide +kernel
theorem dX8_lots_2 : decode cX8_lots 2 = .ok (.iconst 1, 1) := by decide +kernel
theorem dX8_lots_3 : decode cX8_lots 3 = .ok (.if_icmp .ge 7, 3) := by decide +kernel
theorem dX8_lots_6 : decode cX8_lots 6 = .ok (.iconst 1, 1) := by decide +kernel
theorem dX8_lots_7 : decode cX8_lots 7 = .ok (.goto 4, 3) := by decide +kernel
theorem dX8_lots_10 : decode cX8_lots 10 = .ok (.iconst 0, 1) := by decide +kernel
theorem dX8_lots_11 : decode cX8_lots 11 = .ok (.iload_n 1, 1) := by decide +kernel
theorem dX8_lots_12 : decode cX8_lots 12 = .ok (.bipush 20, 2) := by decide +kernel
theorem dX8_lots_14 : decode cX8_lots 14 = .ok (.if_icmp .le 7, 3) := by decide +kernel
theorem dX8_lots_17 : decode cX8_lots 17 = .ok (.iconst 1, 1) := by decide +kernel
theorem dX8_lots_18 : decode cX8_lots 18 = .ok (.goto 4, 3) := by decide +kernel
theorem dX8_lots_21 : decode cX8_lots 21 = .ok (.iconst 0, 1) := by decide +kernel
theorem dX8_lots_22 : decode cX8_lots 22 = .ok (.iload_n 3, 1) := by decide +kernel
theorem dX8_lots_23 : decode cX8_lots 23 = .ok (.invokestatic 192, 3) := by decide +kernel
theorem dX8_lots_26 : decode cX8_lots 26 = .ok (.ifCond .ne 7, 3) := by decide +kernel
theorem dX8_lots_29 : decode cX8_lots 29 = .ok (.iconst 1, 1) := by decide +kernel
theorem dX8_lots_30 : decode cX8_lots 30 = .ok (.goto 4, 3) := by decide +kernel
theorem dX8_lots_33 : decode cX8_lots 33 = .ok (.iconst 0, 1) := by decide +kernel
theorem dX8_lots_34 : decode cX8_lots 34 = .ok (.invokestatic 50, 3) := by decide +kernel
theorem dX8_lots_37 : decode cX8_lots 37 = .ok (.istore 4, 2) := by decide +kernel
theorem dX8_lots_39 : decode cX8_lots 39 = .ok (.iload 4, 2) := by decide +kernel
theorem dX8_lots_41 : decode cX8_lots 41 = .ok (.ifCond .eq 12, 3) := by decide +kernel
theorem dX8_lots_44 : decode cX8_lots 44 = .ok (.aload_n 0, 1) := by decide +kernel
theorem dX8_lots_45 : decode cX8_lots 45 = .ok (.iload 4, 2) := by decide +kernel
theorem dX8_lots_47 : decode cX8_lots 47 = .ok (.invokevirtual 54, 3) := by decide +kernel
theorem dX8_lots_50 : decode cX8_lots 50 = .ok (.goto 13, 3) := by decide +kernel
theorem dX8_lots_53 : decode cX8_lots 53 = .ok (.aload_n 0, 1) := by decide +kernel
theorem dX8_lots_54 : decode cX8_lots 54 = .ok (.getfield 42, 3) := by decide +kernel
theorem dX8_lots_57 : decode cX8_lots 57 = .ok (.iload_n 1, 1) := by decide +kernel
theorem dX8_lots_58 : decode cX8_lots 58 = .ok (.iload_n 2, 1) := by decide +kernel
theorem dX8_lots_59 : decode cX8_lots 59 = .ok (.iload_n 3, 1) := by decide +kernel
theorem dX8_lots_60 : decode cX8_lots 60 = .ok (.invokevirtual 288, 3) := by decide +kernel
theorem dX8_lots_63 : decode cX8_lots 63 = .ok (.ireturn, 1) := by decide +kernel
theorem dX8_image_0 : decode cX8_image 0 = .ok (.aload_n 0, 1) := by decide +kernel
theorem dX8_image_1 : decode cX8_image 1 = .ok (.getfield 291, 3) := by decide +kernel
theorem dX8_image_4 : decode cX8_image 4 = .ok (.ifnonnull 14, 3) := by decide +kernel
theorem dX8_image_7 : decode cX8_image 7 = .ok (.aload_n 0, 1) := by decide +kernel
theorem dX8_image_8 : decode cX8_image 8 = .ok (.new 30, 3) := by decide +kernel
theorem dX8_image_11 : decode cX8_image 11 = .ok (.dup, 1) := by decide +kernel
theorem dX8_image_12 : decode cX8_image 12 = .ok (.invokespecial 32, 3) := by decide +kernel
theorem dX8_image_15 : decode cX8_image 15 = .ok (.putfield 291, 3) := by decide +kernel
theorem dX8_image_18 : decode cX8_image 18 = .ok (.aload_n 0, 1) := by decide +kernel
theorem dX8_image_19 : decode cX8_image 19 = .ok (.getfield 291, 3) := by decide +kernel
theorem dX8_image_22 : decode cX8_image 22 = .ok (.aload_n 0, 1) := by decide +kernel
theorem dX8_image_23 : decode cX8_image 23 = .ok (.getfield 33, 3) := by decide +kernel
theorem dX8_image_26 : decode cX8_image 26 = .ok (.invokevirtual 72, 3) := by decide +kernel
theorem dX8_image_29 : decode cX8_image 29 = .ok (.aload_n 0, 1) := by decide +kernel
theorem dX8_image_30 : decode cX8_image 30 = .ok (.getfield 33, 3) := by decide +kernel
theorem dX8_image_33 : decode cX8_image 33 = .ok (.getfield 157, 3) := by decide +kernel
theorem dX8_image_36 : decode cX8_image 36 = .ok (.ireturn, 1) := by decide +kernel
theorem dX8_restore_0 : decode cX8_restore 0 = .ok (.aload_n 0, 1) := by decide +kernel
theorem dX8_restore_1 : decode cX8_restore 1 = .ok (.getfield 291, 3) := by decide +kernel
theorem dX8_restore_4 : decode cX8_restore 4 = .ok (.ifnonnull 10, 3) := by decide +kernel
theorem dX8_restore_7 : decode cX8_restore 7 = .ok (.aload_n 0, 1) := by decide +kernel
theorem dX8_restore_8 : decode cX8_restore 8 = .ok (.bipush (-3), 2) := by decide +kernel
theorem dX8_restore_10 : decode cX8_restore 10 = .ok (.invokevirtual 54, 3) := by decide +kernel
theorem dX8_restore_13 : decode cX8_restore 13 = .ok (.ireturn, 1) := by decide +kernel
theorem dX8_restore_14 : decode cX8_restore 14 = .ok (.aload_n 0, 1) := by decide +kernel
theorem dX8_restore_15 : decode cX8_restore 15 = .ok (.getfield 33, 3) := by decide +kernel
theorem dX8_restore_18 : decode cX8_restore 18 = .ok (.aload_n 0, 1) := by decide +kernel
theorem dX8_restore_19 : decode cX8_restore 19 = .ok (.getfield 291, 3) := by decide +kernel
theorem dX8_restore_22 : decode cX8_restore 22 = .ok (.invokevirtual 72, 3) := by decide +kernel
theorem dX8_restore_25 : decode cX8_restore 25 = .ok (.aload_n 0, 1) := by decide +kernel
theorem dX8_restore_26 : decode cX8_restore 26 = .ok (.getfield 12, 3) := by decide +kernel
theorem dX8_restore_29 : decode cX8_restore 29 = .ok (.invokevirtual 75, 3) := by decide +kernel
theorem dX8_restore_32 : decode cX8_restore 32 = .ok (.aload_n 0, 1) := by decide +kernel
theorem dX8_restore_33 : decode cX8_restore 33 = .ok (.getfield 33, 3) := by decide +kernel
theorem dX8_restore_36 : decode cX8_restore 36 = .ok (.getfield 157, 3) := by decide +kernel
theorem dX8_restore_39 : decode cX8_restore 39 = .ok (.ireturn, 1) := by decide +kernel
theorem dX8_count_0 : decode cX8_count 0 = .ok (.iload_n 1, 1) := by decide +kernel
theorem dX8_count_1 : decode cX8_count 1 = .ok (.tableswitch 153 0 10 #[59, 67, 75, 83, 91, 99, 110, 121, 132, 140, 145], 59) := by decide +kernel
theorem dX8_count_60 : decode cX8_count 60 = .ok (.aload_n 0, 1) := by decide +kernel
theorem dX8_count_61 : decode cX8_count 61 = .ok (.getfield 33, 3) := by decide +kernel
theorem dX8_count_64 : decode cX8_count 64 = .ok (.getfield 123, 3) := by decide +kernel
theorem dX8_count_67 : decode cX8_count 67 = .ok (.ireturn, 1) := by decide +kernel
theorem dX8_count_68 : decode cX8_count 68 = .ok (.aload_n 0, 1) := by decide +kernel
theorem dX8_count_69 : decode cX8_count 69 = .ok (.getfield 33, 3) := by decide +kernel
theorem dX8_count_72 : decode cX8_count 72 = .ok (.getfield 157, 3) := by decide +kernel
theorem dX8_count_75 : decode cX8_count 75 = .ok (.ireturn, 1) := by decide +kernel
theorem dX8_count_76 : decode cX8_count 76 = .ok (.aload_n 0, 1) := by decide +kernel
theorem dX8_count_77 : decode cX8_count 77 = .ok (.getfield 33, 3) := by decide +kernel
theorem dX8_count_80 : decode cX8_count 80 = .ok (.getfield 151, 3) := by decide +kernel
theorem dX8_count_83 : decode cX8_count 83 = .ok (.ireturn, 1) := by decide +kernel
theorem dX8_count_84 : decode cX8_count 84 = .ok (.aload_n 0, 1) := by decide +kernel
theorem dX8_count_85 : decode cX8_count 85 = .ok (.getfield 33, 3) := by decide +kernel
theorem dX8_count_88 : decode cX8_count 88 = .ok (.getfield 294, 3) := by decide +kernel
theorem dX8_count_91 : decode cX8_count 91 = .ok (.ireturn, 1) := by decide +kernel
theorem dX8_count_92 : decode cX8_count 92 = .ok (.aload_n 0, 1) := by decide +kernel
theorem dX8_count_93 : decode cX8_count 93 = .ok (.getfield 33, 3) := by decide +kernel
theorem dX8_count_96 : decode cX8_count 96 = .ok (.getfield 297, 3) := by decide +kernel
theorem dX8_count_99 : decode cX8_count 99 = .ok (.ireturn, 1) := by decide +kernel
theorem dX8_count_100 : decode cX8_count 100 = .ok (.aload_n 0, 1) := by decide +kernel
theorem dX8_count_101 : decode cX8_count 101 = .ok (.getfield 33, 3) := by decide +kernel
theorem dX8_count_104 : decode cX8_count 104 = .ok (.getfield 109, 3) := by decide +kernel
theorem dX8_count_107 : decode cX8_count 107 = .ok (.getfield 300, 3) := by decide +kernel
theorem dX8_count_110 : decode cX8_count 110 = .ok (.ireturn, 1) := by decide +kernel
theorem dX8_count_111 : decode cX8_count 111 = .ok (.aload_n 0, 1) := by decide +kernel
theorem dX8_count_112 : decode cX8_count 112 = .ok (.getfield 33, 3) := by decide +kernel
theorem dX8_count_115 : decode cX8_count 115 = .ok (.getfield 164, 3) := by decide +kernel
theorem dX8_count_118 : decode cX8_count 118 = .ok (.invokestatic 167, 3) := by decide +kernel
theorem dX8_count_121 : decode cX8_count 121 = .ok (.ireturn, 1) := by decide +kernel
theorem dX8_count_122 : decode cX8_count 122 = .ok (.aload_n 0, 1) := by decide +kernel
theorem dX8_count_123 : decode cX8_count 123 = .ok (.getfield 33, 3) := by decide +kernel
theorem dX8_count_126 : decode cX8_count 126 = .ok (.getfield 143, 3) := by decide +kernel
theorem dX8_count_129 : decode cX8_count 129 = .ok (.invokestatic 167, 3) := by decide +kernel
theorem dX8_count_132 : decode cX8_count 132 = .ok (.ireturn, 1) := by decide +kernel
theorem dX8_count_133 : decode cX8_count 133 = .ok (.aload_n 0, 1) := by decide +kernel
theorem dX8_count_134 : decode cX8_count 134 = .ok (.getfield 19, 3) := by decide +kernel
theorem dX8_count_137 : decode cX8_count 137 = .ok (.getfield 303, 3) := by decide +kernel
theorem dX8_count_140 : decode cX8_count 140 = .ok (.ireturn, 1) := by decide +kernel
theorem dX8_count_141 : decode cX8_count 141 = .ok (.aload_n 0, 1) := by decide +kernel
theorem dX8_count_142 : decode cX8_count 142 = .ok (.getfield 228, 3) := by decide +kernel
theorem dX8_count_145 : decode cX8_count 145 = .ok (.ireturn, 1) := by decide +kernel
theorem dX8_count_146 : decode cX8_count 146 = .ok (.aload_n 0, 1) := by decide +kernel
theorem dX8_count_147 : decode cX8_count 147 = .ok (.getfield 12, 3) := by decide +kernel
theorem dX8_count_150 : decode cX8_count 150 = .ok (.getfield 173, 3) := by decide +kernel
theorem dX8_count_153 : decode cX8_count 153 = .ok (.ireturn, 1) := by decide +kernel
theorem dX8_count_154 : decode cX8_count 154 = .ok (.iload_n 1, 1) := by decide +kernel
theorem dX8_count_155 : decode cX8_count 155 = .ok (.bipush 11, 2) := by decide +kernel
theorem dX8_count_157 : decode cX8_count 157 = .ok (.if_icmp .lt 21, 3) := by decide +kernel
theorem dX8_count_160 : decode cX8_count 160 = .ok (.iload_n 1, 1) := by decide +kernel
theorem dX8_count_161 : decode cX8_count 161 = .ok (.bipush 16, 2) := by decide +kernel
theorem dX8_count_163 : decode cX8_count 163 = .ok (.if_icmp .gt 15, 3) := by decide +kernel
theorem dX8_count_166 : decode cX8_count 166 = .ok (.aload_n 0, 1) := by decide +kernel
theorem dX8_count_167 : decode cX8_count 167 = .ok (.getfield 27, 3) := by decide +kernel
theorem dX8_count_170 : decode cX8_count 170 = .ok (.iload_n 1, 1) := by decide +kernel
theorem dX8_count_171 : decode cX8_count 171 = .ok (.bipush 11, 2) := by decide +kernel
theorem dX8_count_173 : decode cX8_count 173 = .ok (.isub, 1) := by decide +kernel
theorem dX8_count_174 : decode cX8_count 174 = .ok (.iaload, 1) := by decide +kernel
theorem dX8_count_175 : decode cX8_count 175 = .ok (.goto 5, 3) := by decide +kernel
theorem dX8_count_178 : decode cX8_count 178 = .ok (.bipush (-9), 2) := by decide +kernel
theorem dX8_count_180 : decode cX8_count 180 = .ok (.ireturn, 1) := by decide +kernel
theorem dX8_refuse_0 : decode cX8_refuse 0 = .ok (.iconst (-1), 1) := by decide +kernel
theorem dX8_refuse_1 : decode cX8_refuse 1 = .ok (.iload_n 1, 1) := by decide +kernel
theorem dX8_refuse_2 : decode cX8_refuse 2 = .ok (.isub, 1) := by decide +kernel
theorem dX8_refuse_3 : decode cX8_refuse 3 = .ok (.istore_n 2, 1) := by decide +kernel
theorem dX8_refuse_4 : decode cX8_refuse 4 = .ok (.iload_n 2, 1) := by decide +kernel
theorem dX8_refuse_5 : decode cX8_refuse 5 = .ok (.ifCond .lt 22, 3) := by decide +kernel
theorem dX8_refuse_8 : decode cX8_refuse 8 = .ok (.iload_n 2, 1) := by decide +kernel
theorem dX8_refuse_9 : decode cX8_refuse 9 = .ok (.aload_n 0, 1) := by decide +kernel
theorem dX8_refuse_10 : decode cX8_refuse 10 = .ok (.getfield 27, 3) := by decide +kernel
theorem dX8_refuse_13 : decode cX8_refuse 13 = .ok (.arraylength, 1) := by decide +kernel
theorem dX8_refuse_14 : decode cX8_refuse 14 = .ok (.if_icmp .ge 13, 3) := by decide +kernel
theorem dX8_refuse_17 : decode cX8_refuse 17 = .ok (.aload_n 0, 1) := by decide +kernel
theorem dX8_refuse_18 : decode cX8_refuse 18 = .ok (.getfield 27, 3) := by decide +kernel
theorem dX8_refuse_21 : decode cX8_refuse 21 = .ok (.iload_n 2, 1) := by decide +kernel
theorem dX8_refuse_22 : decode cX8_refuse 22 = .ok (.dup2, 1) := by decide +kernel
theorem dX8_refuse_23 : decode cX8_refuse 23 = .ok (.iaload, 1) := by decide +kernel
theorem dX8_refuse_24 : decode cX8_refuse 24 = .ok (.iconst 1, 1) := by decide +kernel
theorem dX8_refuse_25 : decode cX8_refuse 25 = .ok (.iadd, 1) := by decide +kernel
theorem dX8_refuse_26 : decode cX8_refuse 26 = .ok (.iastore, 1) := by decide +kernel
theorem dX8_refuse_27 : decode cX8_refuse 27 = .ok (.iload_n 1, 1) := by decide +kernel
theorem dX8_refuse_28 : decode cX8_refuse 28 = .ok (.ireturn, 1) := by decide +kernel
theorem dX8_whyNot_0 : decode cX8_whyNot 0 = .ok (.iload_n 0, 1) := by decide +kernel
theorem dX8_whyNot_1 : decode cX8_whyNot 1 = .ok (.ifCond .eq 5, 3) := by decide +kernel
theorem dX8_whyNot_4 : decode cX8_whyNot 4 = .ok (.iconst (-1), 1) := by decide +kernel
theorem dX8_whyNot_5 : decode cX8_whyNot 5 = .ok (.ireturn, 1) := by decide +kernel
theorem dX8_whyNot_6 : decode cX8_whyNot 6 = .ok (.iload_n 1, 1) := by decide +kernel
theorem dX8_whyNot_7 : decode cX8_whyNot 7 = .ok (.ifCond .eq 6, 3) := by decide +kernel
theorem dX8_whyNot_10 : decode cX8_whyNot 10 = .ok (.bipush (-4), 2) := by decide +kernel
theorem dX8_whyNot_12 : decode cX8_whyNot 12 = .ok (.ireturn, 1) := by decide +kernel
theorem dX8_whyNot_13 : decode cX8_whyNot 13 = .ok (.iload_n 2, 1) := by decide +kernel
theorem dX8_whyNot_14 : decode cX8_whyNot 14 = .ok (.ifCond .eq 6, 3) := by decide +kernel
theorem dX8_whyNot_17 : decode cX8_whyNot 17 = .ok (.bipush (-6), 2) := by decide +kernel
theorem dX8_whyNot_19 : decode cX8_whyNot 19 = .ok (.ireturn, 1) := by decide +kernel
theorem dX8_whyNot_20 : decode cX8_whyNot 20 = .ok (.iload_n 3, 1) := by decide +kernel
theorem dX8_whyNot_21 : decode cX8_whyNot 21 = .ok (.ifCond .eq 8, 3) := by decide +kernel
theorem dX8_whyNot_24 : decode cX8_whyNot 24 = .ok (.bipush (-2), 2) := by decide +kernel
theorem dX8_whyNot_26 : decode cX8_whyNot 26 = .ok (.goto 4, 3) := by decide +kernel
theorem dX8_whyNot_29 : decode cX8_whyNot 29 = .ok (.iconst 0, 1) := by decide +kernel
theorem dX8_whyNot_30 : decode cX8_whyNot 30 = .ok (.ireturn, 1) := by decide +kernel
theorem dX8_isChoice_0 : decode cX8_isChoice 0 = .ok (.iload_n 0, 1) := by decide +kernel
theorem dX8_isChoice_1 : decode cX8_isChoice 1 = .ok (.ifCond .eq 8, 3) := by decide +kernel
theorem dX8_isChoice_4 : decode cX8_isChoice 4 = .ok (.iload_n 0, 1) := by decide +kernel
theorem dX8_isChoice_5 : decode cX8_isChoice 5 = .ok (.iconst 1, 1) := by decide +kernel
theorem dX8_isChoice_6 : decode cX8_isChoice 6 = .ok (.if_icmp .ne 7, 3) := by decide +kernel
theorem dX8_isChoice_9 : decode cX8_isChoice 9 = .ok (.iconst 1, 1) := by decide +kernel
theorem dX8_isChoice_10 : decode cX8_isChoice 10 = .ok (.goto 4, 3) := by decide +kernel
theorem dX8_isChoice_13 : decode cX8_isChoice 13 = .ok (.iconst 0, 1) := by decide +kernel
theorem dX8_isChoice_14 : decode cX8_isChoice 14 = .ok (.ireturn, 1) := by decide +kernel
theorem dX8_isThere_0 : decode cX8_isThere 0 = .ok (.aload_n 0, 1) := by decide +kernel
theorem dX8_isThere_1 : decode cX8_isThere 1 = .ok (.getfield 33, 3) := by decide +kernel
theorem dX8_isThere_4 : decode cX8_isThere 4 = .ok (.iload_n 1, 1) := by decide +kernel
theorem dX8_isThere_5 : decode cX8_isThere 5 = .ok (.invokevirtual 306, 3) := by decide +kernel
theorem dX8_isThere_8 : decode cX8_isThere 8 = .ok (.ireturn, 1) := by decide +kernel
theorem dX8_isThereOrShe_0 : decode cX8_isThereOrShe 0 = .ok (.iload_n 1, 1) := by decide +kernel
theorem dX8_isThereOrShe_1 : decode cX8_isThereOrShe 1 = .ok (.iconst (-1), 1) := by decide +kernel
theorem dX8_isThereOrShe_2 : decode cX8_isThereOrShe 2 = .ok (.if_icmp .eq 11, 3) := by decide +kernel
theorem dX8_isThereOrShe_5 : decode cX8_isThereOrShe 5 = .ok (.aload_n 0, 1) := by decide +kernel
theorem dX8_isThereOrShe_6 : decode cX8_isThereOrShe 6 = .ok (.iload_n 1, 1) := by decide +kernel
theorem dX8_isThereOrShe_7 : decode cX8_isThereOrShe 7 = .ok (.invokevirtual 81, 3) := by decide +kernel
theorem dX8_isThereOrShe_10 : decode cX8_isThereOrShe 10 = .ok (.ifCond .eq 7, 3) := by decide +kernel
theorem dX8_isThereOrShe_13 : decode cX8_isThereOrShe 13 = .ok (.iconst 1, 1) := by decide +kernel
theorem dX8_isThereOrShe_14 : decode cX8_isThereOrShe 14 = .ok (.goto 4, 3) := by decide +kernel
theorem dX8_isThereOrShe_17 : decode cX8_isThereOrShe 17 = .ok (.iconst 0, 1) := by decide +kernel
theorem dX8_isThereOrShe_18 : decode cX8_isThereOrShe 18 = .ok (.ireturn, 1) := by decide +kernel
theorem dX8_areTwo_0 : decode cX8_areTwo 0 = .ok (.aload_n 0, 1) := by decide +kernel
theorem dX8_areTwo_1 : decode cX8_areTwo 1 = .ok (.iload_n 1, 1) := by decide +kernel
theorem dX8_areTwo_2 : decode cX8_areTwo 2 = .ok (.invokevirtual 81, 3) := by decide +kernel
theorem dX8_areTwo_5 : decode cX8_areTwo 5 = .ok (.ifCond .eq 20, 3) := by decide +kernel
theorem dX8_areTwo_8 : decode cX8_areTwo 8 = .ok (.aload_n 0, 1) := by decide +kernel
theorem dX8_areTwo_9 : decode cX8_areTwo 9 = .ok (.iload_n 2, 1) := by decide +kernel
theorem dX8_areTwo_10 : decode cX8_areTwo 10 = .ok (.invokevirtual 81, 3) := by decide +kernel
theorem dX8_areTwo_13 : decode cX8_areTwo 13 = .ok (.ifCond .eq 12, 3) := by decide +kernel
theorem dX8_areTwo_16 : decode cX8_areTwo 16 = .ok (.iload_n 1, 1) := by decide +kernel
theorem dX8_areTwo_17 : decode cX8_areTwo 17 = .ok (.iload_n 2, 1) := by decide +kernel
theorem dX8_areTwo_18 : decode cX8_areTwo 18 = .ok (.if_icmp .eq 7, 3) := by decide +kernel
theorem dX8_areTwo_21 : decode cX8_areTwo 21 = .ok (.iconst 1, 1) := by decide +kernel
theorem dX8_areTwo_22 : decode cX8_areTwo 22 = .ok (.goto 4, 3) := by decide +kernel
theorem dX8_areTwo_25 : decode cX8_areTwo 25 = .ok (.iconst 0, 1) := by decide +kernel
theorem dX8_areTwo_26 : decode cX8_areTwo 26 = .ok (.ireturn, 1) := by decide +kernel
theorem dX8_isInBag_0 : decode cX8_isInBag 0 = .ok (.iload_n 1, 1) := by decide +kernel
theorem dX8_isInBag_1 : decode cX8_isInBag 1 = .ok (.ifCond .lt 21, 3) := by decide +kernel
theorem dX8_isInBag_4 : decode cX8_isInBag 4 = .ok (.iload_n 1, 1) := by decide +kernel
theorem dX8_isInBag_5 : decode cX8_isInBag 5 = .ok (.aload_n 0, 1) := by decide +kernel
theorem dX8_isInBag_6 : decode cX8_isInBag 6 = .ok (.getfield 33, 3) := by decide +kernel
theorem dX8_isInBag_9 : decode cX8_isInBag 9 = .ok (.getfield 109, 3) := by decide +kernel
theorem dX8_isInBag_12 : decode cX8_isInBag 12 = .ok (.getfield 300, 3) := by decide +kernel
theorem dX8_isInBag_15 : decode cX8_isInBag 15 = .ok (.if_icmp .ge 7, 3) := by decide +kernel
theorem dX8_isInBag_18 : decode cX8_isInBag 18 = .ok (.iconst 1, 1) := by decide +kernel
theorem dX8_isInBag_19 : decode cX8_isInBag 19 = .ok (.goto 4, 3) := by decide +kernel
theorem dX8_isInBag_22 : decode cX8_isInBag 22 = .ok (.iconst 0, 1) := by decide +kernel
theorem dX8_isInBag_23 : decode cX8_isInBag 23 = .ok (.ireturn, 1) := by decide +kernel
theorem dX8_kindsByRow_0 : decode cX8_kindsByRow 0 = .ok (.iconst 0, 1) := by decide +kernel
theorem dX8_kindsByRow_1 : decode cX8_kindsByRow 1 = .ok (.istore_n 2, 1) := by decide +kernel
theorem dX8_kindsByRow_2 : decode cX8_kindsByRow 2 = .ok (.iconst 0, 1) := by decide +kernel
theorem dX8_kindsByRow_3 : decode cX8_kindsByRow 3 = .ok (.istore_n 3, 1) := by decide +kernel
theorem dX8_kindsByRow_4 : decode cX8_kindsByRow 4 = .ok (.iload_n 3, 1) := by decide +kernel
theorem dX8_kindsByRow_5 : decode cX8_kindsByRow 5 = .ok (.bipush 8, 2) := by decide +kernel
theorem dX8_kindsByRow_7 : decode cX8_kindsByRow 7 = .ok (.if_icmp .ge 24, 3) := by decide +kernel
theorem dX8_kindsByRow_10 : decode cX8_kindsByRow 10 = .ok (.aload_n 0, 1) := by decide +kernel
theorem dX8_kindsByRow_11 : decode cX8_kindsByRow 11 = .ok (.iload_n 3, 1) := by decide +kernel
theorem dX8_kindsByRow_12 : decode cX8_kindsByRow 12 = .ok (.iload_n 1, 1) := by decide +kernel
theorem dX8_kindsByRow_13 : decode cX8_kindsByRow 13 = .ok (.invokevirtual 309, 3) := by decide +kernel
theorem dX8_kindsByRow_16 : decode cX8_kindsByRow 16 = .ok (.ifCond .eq 9, 3) := by decide +kernel
theorem dX8_kindsByRow_19 : decode cX8_kindsByRow 19 = .ok (.iload_n 2, 1) := by decide +kernel
theorem dX8_kindsByRow_20 : decode cX8_kindsByRow 20 = .ok (.iconst 1, 1) := by decide +kernel
theorem dX8_kindsByRow_21 : decode cX8_kindsByRow 21 = .ok (.iload_n 3, 1) := by decide +kernel
theorem dX8_kindsByRow_22 : decode cX8_kindsByRow 22 = .ok (.ishl, 1) := by decide +kernel
theorem dX8_kindsByRow_23 : decode cX8_kindsByRow 23 = .ok (.ior, 1) := by decide +kernel
theorem dX8_kindsByRow_24 : decode cX8_kindsByRow 24 = .ok (.istore_n 2, 1) := by decide +kernel
theorem dX8_kindsByRow_25 : decode cX8_kindsByRow 25 = .ok (.iinc 3 1, 3) := by decide +kernel
theorem dX8_kindsByRow_28 : decode cX8_kindsByRow 28 = .ok (.goto (-24), 3) := by decide +kernel
theorem dX8_kindsByRow_31 : decode cX8_kindsByRow 31 = .ok (.iload_n 2, 1) := by decide +kernel
theorem dX8_kindsByRow_32 : decode cX8_kindsByRow 32 = .ok (.ireturn, 1) := by decide +kernel
theorem dX8_figuresByRow_0 : decode cX8_figuresByRow 0 = .ok (.iconst 0, 1) := by decide +kernel
theorem dX8_figuresByRow_1 : decode cX8_figuresByRow 1 = .ok (.istore_n 2, 1) := by decide +kernel
theorem dX8_figuresByRow_2 : decode cX8_figuresByRow 2 = .ok (.iconst 0, 1) := by decide +kernel
theorem dX8_figuresByRow_3 : decode cX8_figuresByRow 3 = .ok (.istore_n 3, 1) := by decide +kernel
theorem dX8_figuresByRow_4 : decode cX8_figuresByRow 4 = .ok (.iload_n 3, 1) := by decide +kernel
theorem dX8_figuresByRow_5 : decode cX8_figuresByRow 5 = .ok (.bipush 9, 2) := by decide +kernel
theorem dX8_figuresByRow_7 : decode cX8_figuresByRow 7 = .ok (.if_icmp .gt 24, 3) := by decide +kernel
theorem dX8_figuresByRow_10 : decode cX8_figuresByRow 10 = .ok (.aload_n 0, 1) := by decide +kernel
theorem dX8_figuresByRow_11 : decode cX8_figuresByRow 11 = .ok (.iload_n 1, 1) := by decide +kernel
theorem dX8_figuresByRow_12 : decode cX8_figuresByRow 12 = .ok (.iload_n 3, 1) := by decide +kernel
theorem dX8_figuresByRow_13 : decode cX8_figuresByRow 13 = .ok (.invokevirtual 309, 3) := by decide +kernel
theorem dX8_figuresByRow_16 : decode cX8_figuresByRow 16 = .ok (.ifCond .eq 9, 3) := by decide +kernel
theorem dX8_figuresByRow_19 : decode cX8_figuresByRow 19 = .ok (.iload_n 2, 1) := by decide +kernel
theorem dX8_figuresByRow_20 : decode cX8_figuresByRow 20 = .ok (.iconst 1, 1) := by decide +kernel
theorem dX8_figuresByRow_21 : decode cX8_figuresByRow 21 = .ok (.iload_n 3, 1) := by decide +kernel
theorem dX8_figuresByRow_22 : decode cX8_figuresByRow 22 = .ok (.ishl, 1) := by decide +kernel
theorem dX8_figuresByRow_23 : decode cX8_figuresByRow 23 = .ok (.ior, 1) := by decide +kernel
theorem dX8_figuresByRow_24 : decode cX8_figuresByRow 24 = .ok (.istore_n 2, 1) := by decide +kernel
theorem dX8_figuresByRow_25 : decode cX8_figuresByRow 25 = .ok (.iinc 3 1, 3) := by decide +kernel
theorem dX8_figuresByRow_28 : decode cX8_figuresByRow 28 = .ok (.goto (-24), 3) := by decide +kernel
theorem dX8_figuresByRow_31 : decode cX8_figuresByRow 31 = .ok (.iload_n 2, 1) := by decide +kernel
theorem dX8_figuresByRow_32 : decode cX8_figuresByRow 32 = .ok (.ireturn, 1) := by decide +kernel
theorem dX8_rowTellsLeads_0 : decode cX8_rowTellsLeads 0 = .ok (.iconst 0, 1) := by decide +kernel
theorem dX8_rowTellsLeads_1 : decode cX8_rowTellsLeads 1 = .ok (.istore_n 3, 1) := by decide +kernel
theorem dX8_rowTellsLeads_2 : decode cX8_rowTellsLeads 2 = .ok (.iload_n 3, 1) := by decide +kernel
theorem dX8_rowTellsLeads_3 : decode cX8_rowTellsLeads 3 = .ok (.aload_n 0, 1) := by decide +kernel
theorem dX8_rowTellsLeads_4 : decode cX8_rowTellsLeads 4 = .ok (.getfield 228, 3) := by decide +kernel
theorem dX8_rowTellsLeads_7 : decode cX8_rowTellsLeads 7 = .ok (.if_icmp .ge 36, 3) := by decide +kernel
theorem dX8_rowTellsLeads_10 : decode cX8_rowTellsLeads 10 = .ok (.aload_n 0, 1) := by decide +kernel
theorem dX8_rowTellsLeads_11 : decode cX8_rowTellsLeads 11 = .ok (.getfield 23, 3) := by decide +kernel
theorem dX8_rowTellsLeads_14 : decode cX8_rowTellsLeads 14 = .ok (.iload_n 3, 1) := by decide +kernel
theorem dX8_rowTellsLeads_15 : decode cX8_rowTellsLeads 15 = .ok (.iaload, 1) := by decide +kernel
theorem dX8_rowTellsLeads_16 : decode cX8_rowTellsLeads 16 = .ok (.iload_n 1, 1) := by decide +kernel
theorem dX8_rowTellsLeads_17 : decode cX8_rowTellsLeads 17 = .ok (.iload_n 2, 1) := by decide +kernel
theorem dX8_rowTellsLeads_18 : decode cX8_rowTellsLeads 18 = .ok (.aload_n 0, 1) := by decide +kernel
theorem dX8_rowTellsLeads_19 : decode cX8_rowTellsLeads 19 = .ok (.getfield 33, 3) := by decide +kernel
theorem dX8_rowTellsLeads_22 : decode cX8_rowTellsLeads 22 = .ok (.getfield 157, 3) := by decide +kernel
theorem dX8_rowTellsLeads_25 : decode cX8_rowTellsLeads 25 = .ok (.iconst 1, 1) := by decide +kernel
theorem dX8_rowTellsLeads_26 : decode cX8_rowTellsLeads 26 = .ok (.iadd, 1) := by decide +kernel
theorem dX8_rowTellsLeads_27 : decode cX8_rowTellsLeads 27 = .ok (.iload_n 3, 1) := by decide +kernel
theorem dX8_rowTellsLeads_28 : decode cX8_rowTellsLeads 28 = .ok (.iadd, 1) := by decide +kernel
theorem dX8_rowTellsLeads_29 : decode cX8_rowTellsLeads 29 = .ok (.invokestatic 312, 3) := by decide +kernel
theorem dX8_rowTellsLeads_32 : decode cX8_rowTellsLeads 32 = .ok (.if_icmp .eq 5, 3) := by decide +kernel
theorem dX8_rowTellsLeads_35 : decode cX8_rowTellsLeads 35 = .ok (.iconst 0, 1) := by decide +kernel
theorem dX8_rowTellsLeads_36 : decode cX8_rowTellsLeads 36 = .ok (.ireturn, 1) := by decide +kernel
theorem dX8_rowTellsLeads_37 : decode cX8_rowTellsLeads 37 = .ok (.iinc 3 1, 3) := by decide +kernel
theorem dX8_rowTellsLeads_40 : decode cX8_rowTellsLeads 40 = .ok (.goto (-38), 3) := by decide +kernel
theorem dX8_rowTellsLeads_43 : decode cX8_rowTellsLeads 43 = .ok (.iconst 1, 1) := by decide +kernel
theorem dX8_rowTellsLeads_44 : decode cX8_rowTellsLeads 44 = .ok (.ireturn, 1) := by decide +kernel
theorem dX9_init_0 : decode cX9_init 0 = .ok (.aload_n 0, 1) := by decide +kernel
theorem dX9_init_1 : decode cX9_init 1 = .ok (.invokespecial 1, 3) := by decide +kernel
theorem dX9_init_4 : decode cX9_init 4 = .ok (.aload_n 0, 1) := by decide +kernel
theorem dX9_init_5 : decode cX9_init 5 = .ok (.bipush 7, 2) := by decide +kernel
theorem dX9_init_7 : decode cX9_init 7 = .ok (.newarray .int, 2) := by decide +kernel
theorem dX9_init_9 : decode cX9_init 9 = .ok (.putfield 7, 3) := by decide +kernel
theorem dX9_init_12 : decode cX9_init 12 = .ok (.aload_n 0, 1) := by decide +kernel
theorem dX9_init_13 : decode cX9_init 13 = .ok (.bipush 6, 2) := by decide +kernel
theorem dX9_init_15 : decode cX9_init 15 = .ok (.newarray .int, 2) := by decide +kernel
theorem dX9_init_17 : decode cX9_init 17 = .ok (.putfield 13, 3) := by decide +kernel
theorem dX9_init_20 : decode cX9_init 20 = .ok (.aload_n 0, 1) := by decide +kernel
theorem dX9_init_21 : decode cX9_init 21 = .ok (.bipush 6, 2) := by decide +kernel
theorem dX9_init_23 : decode cX9_init 23 = .ok (.newarray .int, 2) := by decide +kernel
theorem dX9_init_25 : decode cX9_init 25 = .ok (.putfield 16, 3) := by decide +kernel
theorem dX9_init_28 : decode cX9_init 28 = .ok (.aload_n 0, 1) := by decide +kernel
theorem dX9_init_29 : decode cX9_init 29 = .ok (.bipush 6, 2) := by decide +kernel
theorem dX9_init_31 : decode cX9_init 31 = .ok (.newarray .int, 2) := by decide +kernel
theorem dX9_init_33 : decode cX9_init 33 = .ok (.putfield 19, 3) := by decide +kernel
theorem dX9_init_36 : decode cX9_init 36 = .ok (.aload_n 0, 1) := by decide +kernel
theorem dX9_init_37 : decode cX9_init 37 = .ok (.bipush 24, 2) := by decide +kernel
theorem dX9_init_39 : decode cX9_init 39 = .ok (.newarray .int, 2) := by decide +kernel
theorem dX9_init_41 : decode cX9_init 41 = .ok (.putfield 22, 3) := by decide +kernel
theorem dX9_init_44 : decode cX9_init 44 = .ok (.aload_n 0, 1) := by decide +kernel
theorem dX9_init_45 : decode cX9_init 45 = .ok (.bipush 24, 2) := by decide +kernel
theorem dX9_init_47 : decode cX9_init 47 = .ok (.newarray .int, 2) := by decide +kernel
theorem dX9_init_49 : decode cX9_init 49 = .ok (.putfield 25, 3) := by decide +kernel
theorem dX9_init_52 : decode cX9_init 52 = .ok (.aload_n 0, 1) := by decide +kernel
theorem dX9_init_53 : decode cX9_init 53 = .ok (.bipush 24, 2) := by decide +kernel
theorem dX9_init_55 : decode cX9_init 55 = .ok (.newarray .int, 2) := by decide +kernel
theorem dX9_init_57 : decode cX9_init 57 = .ok (.putfield 28, 3) := by decide +kernel
theorem dX9_init_60 : decode cX9_init 60 = .ok (.aload_n 0, 1) := by decide +kernel
theorem dX9_init_61 : decode cX9_init 61 = .ok (.bipush 24, 2) := by decide +kernel
theorem dX9_init_63 : decode cX9_init 63 = .ok (.newarray .int, 2) := by decide +kernel
theorem dX9_init_65 : decode cX9_init 65 = .ok (.putfield 31, 3) := by decide +kernel
theorem dX9_init_68 : decode cX9_init 68 = .ok (.aload_n 0, 1) := by decide +kernel
theorem dX9_init_69 : decode cX9_init 69 = .ok (.bipush 6, 2) := by decide +kernel
theorem dX9_init_71 : decode cX9_init 71 = .ok (.newarray .long, 2) := by decide +kernel
theorem dX9_init_73 : decode cX9_init 73 = .ok (.putfield 34, 3) := by decide +kernel
theorem dX9_init_76 : decode cX9_init 76 = .ok (.aload_n 0, 1) := by decide +kernel
theorem dX9_init_77 : decode cX9_init 77 = .ok (.bipush 6, 2) := by decide +kernel
theorem dX9_init_79 : decode cX9_init 79 = .ok (.newarray .long, 2) := by decide +kernel
theorem dX9_init_81 : decode cX9_init 81 = .ok (.putfield 38, 3) := by decide +kernel
theorem dX9_init_84 : decode cX9_init 84 = .ok (.aload_n 0, 1) := by decide +kernel
theorem dX9_init_85 : decode cX9_init 85 = .ok (.bipush 24, 2) := by decide +kernel
theorem dX9_init_87 : decode cX9_init 87 = .ok (.newarray .long, 2) := by decide +kernel
theorem dX9_init_89 : decode cX9_init 89 = .ok (.putfield 41, 3) := by decide +kernel
theorem dX9_init_92 : decode cX9_init 92 = .ok (.aload_n 0, 1) := by decide +kernel
theorem dX9_init_93 : decode cX9_init 93 = .ok (.bipush 96, 2) := by decide +kernel
theorem dX9_init_95 : decode cX9_init 95 = .ok (.newarray .int, 2) := by decide +kernel
theorem dX9_init_97 : decode cX9_init 97 = .ok (.putfield 44, 3) := by decide +kernel
theorem dX9_init_100 : decode cX9_init 100 = .ok (.aload_n 0, 1) := by decide +kernel
theorem dX9_init_101 : decode cX9_init 101 = .ok (.bipush 33, 2) := by decide +kernel
theorem dX9_init_103 : decode cX9_init 103 = .ok (.newarray .int, 2) := by decide +kernel
theorem dX9_init_105 : decode cX9_init 105 = .ok (.putfield 47, 3) := by decide +kernel
theorem dX9_init_108 : decode cX9_init 108 = .ok (.aload_n 0, 1) := by decide +kernel
theorem dX9_init_109 : decode cX9_init 109 = .ok (.bipush 33, 2) := by decide +kernel
theorem dX9_init_111 : decode cX9_init 111 = .ok (.newarray .int, 2) := by decide +kernel
theorem dX9_init_113 : decode cX9_init 113 = .ok (.putfield 50, 3) := by decide +kernel
theorem dX9_init_116 : decode cX9_init 116 = .ok (.aload_n 0, 1) := by decide +kernel
theorem dX9_init_117 : decode cX9_init 117 = .ok (.bipush 66, 2) := by decide +kernel
theorem dX9_init_119 : decode cX9_init 119 = .ok (.newarray .int, 2) := by decide +kernel
theorem dX9_init_121 : decode cX9_init 121 = .ok (.putfield 53, 3) := by decide +kernel
theorem dX9_init_124 : decode cX9_init 124 = .ok (.aload_n 0, 1) := by decide +kernel
theorem dX9_init_125 : decode cX9_init 125 = .ok (.sipush 1320, 3) := by decide +kernel
theorem dX9_init_128 : decode cX9_init 128 = .ok (.newarray .int, 2) := by decide +kernel
theorem dX9_init_130 : decode cX9_init 130 = .ok (.putfield 56, 3) := by decide +kernel
theorem dX9_init_133 : decode cX9_init 133 = .ok (.aload_n 0, 1) := by decide +kernel
theorem dX9_init_134 : decode cX9_init 134 = .ok (.sipush 418, 3) := by decide +kernel
theorem dX9_init_137 : decode cX9_init 137 = .ok (.newarray .long, 2) := by decide +kernel
theorem dX9_init_139 : decode cX9_init 139 = .ok (.putfield 59, 3) := by decide +kernel
theorem dX9_init_142 : decode cX9_init 142 = .ok (.aload_n 0, 1) := by decide +kernel
theorem dX9_init_143 : decode cX9_init 143 = .ok (.bipush 12, 2) := by decide +kernel
theorem dX9_init_145 : decode cX9_init 145 = .ok (.newarray .int, 2) := by decide +kernel
theorem dX9_init_147 : decode cX9_init 147 = .ok (.putfield 62, 3) := by decide +kernel
theorem dX9_init_150 : decode cX9_init 150 = .ok (.aload_n 0, 1) := by decide +kernel
theorem dX9_init_151 : decode cX9_init 151 = .ok (.bipush 8, 2) := by decide +kernel
theorem dX9_init_153 : decode cX9_init 153 = .ok (.newarray .int, 2) := by decide +kernel
theorem dX9_init_155 : decode cX9_init 155 = .ok (.putfield 65, 3) := by decide +kernel
theorem dX9_init_158 : decode cX9_init 158 = .ok (.aload_n 0, 1) := by decide +kernel
theorem dX9_init_159 : decode cX9_init 159 = .ok (.bipush 6, 2) := by decide +kernel
theorem dX9_init_161 : decode cX9_init 161 = .ok (.putfield 68, 3) := by decide +kernel
theorem dX9_init_164 : decode cX9_init 164 = .ok (.return_, 1) := by decide +kernel
theorem dX9_no_0 : decode cX9_no 0 = .ok (.aload_n 0, 1) := by decide +kernel
theorem dX9_no_1 : decode cX9_no 1 = .ok (.getfield 7, 3) := by decide +kernel
theorem dX9_no_4 : decode cX9_no 4 = .ok (.iload_n 1, 1) := by decide +kernel
theorem dX9_no_5 : decode cX9_no 5 = .ok (.ineg, 1) := by decide +kernel
theorem dX9_no_6 : decode cX9_no 6 = .ok (.dup2, 1) := by decide +kernel
theorem dX9_no_7 : decode cX9_no 7 = .ok (.iaload, 1) := by decide +kernel
theorem dX9_no_8 : decode cX9_no 8 = .ok (.iconst 1, 1) := by decide +kernel
theorem dX9_no_9 : decode cX9_no 9 = .ok (.iadd, 1) := by decide +kernel
theorem dX9_no_10 : decode cX9_no 10 = .ok (.iastore, 1) := by decide +kernel
theorem dX9_no_11 : decode cX9_no 11 = .ok (.iload_n 1, 1) := by decide +kernel
theorem dX9_no_12 : decode cX9_no 12 = .ok (.ireturn, 1) := by decide +kernel
theorem dX9_lower_0 : decode cX9_lower 0 = .ok (.aload_n 0, 1) := by decide +kernel
theorem dX9_lower_1 : decode cX9_lower 1 = .ok (.getfield 7, 3) := by decide +kernel
theorem dX9_lower_4 : decode cX9_lower 4 = .ok (.iload_n 1, 1) := by decide +kernel
theorem dX9_lower_5 : decode cX9_lower 5 = .ok (.ineg, 1) := by decide +kernel
theorem dX9_lower_6 : decode cX9_lower 6 = .ok (.dup2, 1) := by decide +kernel
theorem dX9_lower_7 : decode cX9_lower 7 = .ok (.iaload, 1) := by decide +kernel
theorem dX9_lower_8 : decode cX9_lower 8 = .ok (.iconst 1, 1) := by decide +kernel
theorem dX9_lower_9 : decode cX9_lower 9 = .ok (.iadd, 1) := by decide +kernel
theorem dX9_lower_10 : decode cX9_lower 10 = .ok (.iastore, 1) := by decide +kernel
theorem dX9_lower_11 : decode cX9_lower 11 = .ok (.ldc 72, 2) := by decide +kernel
theorem dX9_lower_13 : decode cX9_lower 13 = .ok (.iload_n 1, 1) := by decide +kernel
theorem dX9_lower_14 : decode cX9_lower 14 = .ok (.isub, 1) := by decide +kernel
theorem dX9_lower_15 : decode cX9_lower 15 = .ok (.ireturn, 1) := by decide +kernel
theorem dX9_lowestOf_0 : decode cX9_lowestOf 0 = .ok (.aload_n 0, 1) := by decide +kernel
theorem dX9_lowestOf_1 : decode cX9_lowestOf 1 = .ok (.getfield 7, 3) := by decide +kernel
theorem dX9_lowestOf_4 : decode cX9_lowestOf 4 = .ok (.iload_n 1, 1) := by decide +kernel
theorem dX9_lowestOf_5 : decode cX9_lowestOf 5 = .ok (.ineg, 1) := by decide +kernel
theorem dX9_lowestOf_6 : decode cX9_lowestOf 6 = .ok (.dup2, 1) := by decide +kernel
theorem dX9_lowestOf_7 : decode cX9_lowestOf 7 = .ok (.iaload, 1) := by decide +kernel
theorem dX9_lowestOf_8 : decode cX9_lowestOf 8 = .ok (.iconst 1, 1) := by decide +kernel
theorem dX9_lowestOf_9 : decode cX9_lowestOf 9 = .ok (.iadd, 1) := by decide +kernel
theorem dX9_lowestOf_10 : decode cX9_lowestOf 10 = .ok (.iastore, 1) := by decide +kernel
theorem dX9_lowestOf_11 : decode cX9_lowestOf 11 = .ok (.ldc2_w 73, 3) := by decide +kernel
theorem dX9_lowestOf_14 : decode cX9_lowestOf 14 = .ok (.iload_n 1, 1) := by decide +kernel
theorem dX9_lowestOf_15 : decode cX9_lowestOf 15 = .ok (.i2l, 1) := by decide +kernel
theorem dX9_lowestOf_16 : decode cX9_lowestOf 16 = .ok (.lsub, 1) := by decide +kernel
theorem dX9_lowestOf_17 : decode cX9_lowestOf 17 = .ok (.lreturn, 1) := by decide +kernel
theorem dX9_isIn_0 : decode cX9_isIn 0 = .ok (.iload_n 0, 1) := by decide +kernel
theorem dX9_isIn_1 : decode cX9_isIn 1 = .ok (.iload_n 1, 1) := by decide +kernel
theorem dX9_isIn_2 : decode cX9_isIn 2 = .ok (.if_icmp .lt 12, 3) := by decide +kernel
theorem dX9_isIn_5 : decode cX9_isIn 5 = .ok (.iload_n 0, 1) := by decide +kernel
theorem dX9_isIn_6 : decode cX9_isIn 6 = .ok (.iload_n 2, 1) := by decide +kernel
theorem dX9_isIn_7 : decode cX9_isIn 7 = .ok (.if_icmp .gt 7, 3) := by decide +kernel
theorem dX9_isIn_10 : decode cX9_isIn 10 = .ok (.iconst 1, 1) := by decide +kernel
theorem dX9_isIn_11 : decode cX9_isIn 11 = .ok (.goto 4, 3) := by decide +kernel
theorem dX9_isIn_14 : decode cX9_isIn 14 = .ok (.iconst 0, 1) := by decide +kernel
theorem dX9_isIn_15 : decode cX9_isIn 15 = .ok (.ireturn, 1) := by decide +kernel
theorem dX9_bound_0 : decode cX9_bound 0 = .ok (.iload_n 0, 1) := by decide +kernel
theorem dX9_bound_1 : decode cX9_bound 1 = .ok (.iload_n 1, 1) := by decide +kernel
theorem dX9_bound_2 : decode cX9_bound 2 = .ok (.if_icmp .ge 8, 3) := by decide +kernel
theorem dX9_bound_5 : decode cX9_bound 5 = .ok (.bipush (-4), 2) := by decide +kernel
theorem dX9_bound_7 : decode cX9_bound 7 = .ok (.goto 14, 3) := by decide +kernel
theorem dX9_bound_10 : decode cX9_bound 10 = .ok (.iload_n 0, 1) := by decide +kernel
theorem dX9_bound_11 : decode cX9_bound 11 = .ok (.iload_n 2, 1) := by decide +kernel
theorem dX9_bound_12 : decode cX9_bound 12 = .ok (.if_icmp .le 8, 3) := by decide +kernel
theorem dX9_bound_15 : decode cX9_bound 15 = .ok (.bipush (-6), 2) := by decide +kernel
theorem dX9_bound_17 : decode cX9_bound 17 = .ok (.goto 4, 3) := by decide +kernel
theorem dX9_bound_20 : decode cX9_bound 20 = .ok (.iconst 0, 1) := by decide +kernel
theorem dX9_bound_21 : decode cX9_bound 21 = .ok (.ireturn, 1) := by decide +kernel
theorem dX9_held_0 : decode cX9_held 0 = .ok (.iload_n 0, 1) := by decide +kernel
theorem dX9_held_1 : decode cX9_held 1 = .ok (.iload_n 1, 1) := by decide +kernel
theorem dX9_held_2 : decode cX9_held 2 = .ok (.if_icmp .le 7, 3) := by decide +kernel
theorem dX9_held_5 : decode cX9_held 5 = .ok (.iload_n 1, 1) := by decide +kernel
theorem dX9_held_6 : decode cX9_held 6 = .ok (.goto 4, 3) := by decide +kernel
theorem dX9_held_9 : decode cX9_held 9 = .ok (.iload_n 0, 1) := by decide +kernel
theorem dX9_held_10 : decode cX9_held 10 = .ok (.ireturn, 1) := by decide +kernel
theorem dX9_has_0 : decode cX9_has 0 = .ok (.lload_n 0, 1) := by decide +kernel
theorem dX9_has_1 : decode cX9_has 1 = .ok (.iload_n 2, 1) := by decide +kernel
theorem dX9_has_2 : decode cX9_has 2 = .ok (.lshr, 1) := by decide +kernel
theorem dX9_has_3 : decode cX9_has 3 = .ok (.lconst 1, 1) := by decide +kernel
theorem dX9_has_4 : decode cX9_has 4 = .ok (.land, 1) := by decide +kernel
theorem dX9_has_5 : decode cX9_has 5 = .ok (.lconst 1, 1) := by decide +kernel
theorem dX9_has_6 : decode cX9_has 6 = .ok (.lcmp, 1) := by decide +kernel
theorem dX9_has_7 : decode cX9_has 7 = .ok (.ifCond .ne 7, 3) := by decide +kernel
theorem dX9_has_10 : decode cX9_has 10 = .ok (.iconst 1, 1) := by decide +kernel
theorem dX9_has_11 : decode cX9_has 11 = .ok (.goto 4, 3) := by decide +kernel
theorem dX9_has_14 : decode cX9_has 14 = .ok (.iconst 0, 1) := by decide +kernel
theorem dX9_has_15 : decode cX9_has 15 = .ok (.ireturn, 1) := by decide +kernel
theorem dX9_bits_0 : decode cX9_bits 0 = .ok (.iconst 0, 1) := by decide +kernel
theorem dX9_bits_1 : decode cX9_bits 1 = .ok (.istore_n 2, 1) := by decide +kernel
theorem dX9_bits_2 : decode cX9_bits 2 = .ok (.iconst 0, 1) := by decide +kernel
theorem dX9_bits_3 : decode cX9_bits 3 = .ok (.istore_n 3, 1) := by decide +kernel
theorem dX9_bits_4 : decode cX9_bits 4 = .ok (.iload_n 3, 1) := by decide +kernel
theorem dX9_bits_5 : decode cX9_bits 5 = .ok (.bipush 40, 2) := by decide +kernel
theorem dX9_bits_7 : decode cX9_bits 7 = .ok (.if_icmp .ge 25, 3) := by decide +kernel
theorem dX9_bits_10 : decode cX9_bits 10 = .ok (.iload_n 2, 1) := by decide +kernel
theorem dX9_bits_11 : decode cX9_bits 11 = .ok (.lload_n 0, 1) := by decide +kernel
theorem dX9_bits_12 : decode cX9_bits 12 = .ok (.iload_n 3, 1) := by decide +kernel
theorem dX9_bits_13 : decode cX9_bits 13 = .ok (.invokestatic 75, 3) := by decide +kernel
theorem dX9_bits_16 : decode cX9_bits 16 = .ok (.ifCond .eq 7, 3) := by decide +kernel
theorem dX9_bits_19 : decode cX9_bits 19 = .ok (.iconst 1, 1) := by decide +kernel
theorem dX9_bits_20 : decode cX9_bits 20 = .ok (.goto 4, 3) := by decide +kernel
theorem dX9_bits_23 : decode cX9_bits 23 = .ok (.iconst 0, 1) := by decide +kernel
theorem dX9_bits_24 : decode cX9_bits 24 = .ok (.iadd, 1) := by decide +kernel
theorem dX9_bits_25 : decode cX9_bits 25 = .ok (.istore_n 2, 1) := by decide +kernel
theorem dX9_bits_26 : decode cX9_bits 26 = .ok (.iinc 3 1, 3) := by decide +kernel
theorem dX9_bits_29 : decode cX9_bits 29 = .ok (.goto (-25), 3) := by decide +kernel
theorem dX9_bits_32 : decode cX9_bits 32 = .ok (.iload_n 2, 1) := by decide +kernel
theorem dX9_bits_33 : decode cX9_bits 33 = .ok (.ireturn, 1) := by decide +kernel
theorem dX9_leastOf_0 : decode cX9_leastOf 0 = .ok (.iload_n 2, 1) := by decide +kernel
theorem dX9_leastOf_1 : decode cX9_leastOf 1 = .ok (.istore_n 3, 1) := by decide +kernel
theorem dX9_leastOf_2 : decode cX9_leastOf 2 = .ok (.iload_n 3, 1) := by decide +kernel
theorem dX9_leastOf_3 : decode cX9_leastOf 3 = .ok (.bipush 40, 2) := by decide +kernel
theorem dX9_leastOf_5 : decode cX9_leastOf 5 = .ok (.if_icmp .ge 19, 3) := by decide +kernel
theorem dX9_leastOf_8 : decode cX9_leastOf 8 = .ok (.lload_n 0, 1) := by decide +kernel
theorem dX9_leastOf_9 : decode cX9_leastOf 9 = .ok (.iload_n 3, 1) := by decide +kernel
theorem dX9_leastOf_10 : decode cX9_leastOf 10 = .ok (.invokestatic 75, 3) := by decide +kernel
theorem dX9_leastOf_13 : decode cX9_leastOf 13 = .ok (.ifCond .eq 5, 3) := by decide +kernel
theorem dX9_leastOf_16 : decode cX9_leastOf 16 = .ok (.iload_n 3, 1) := by decide +kernel
theorem dX9_leastOf_17 : decode cX9_leastOf 17 = .ok (.ireturn, 1) := by decide +kernel
theorem dX9_leastOf_18 : decode cX9_leastOf 18 = .ok (.iinc 3 1, 3) := by decide +kernel
theorem dX9_leastOf_21 : decode cX9_leastOf 21 = .ok (.goto (-19), 3) := by decide +kernel
theorem dX9_leastOf_24 : decode cX9_leastOf 24 = .ok (.bipush (-9), 2) := by decide +kernel
theorem dX9_leastOf_26 : decode cX9_leastOf 26 = .ok (.ireturn, 1) := by decide +kernel
theorem dX9_greatestOf_0 : decode cX9_greatestOf 0 = .ok (.bipush 39, 2) := by decide +kernel
theorem dX9_greatestOf_2 : decode cX9_greatestOf 2 = .ok (.istore_n 2, 1) := by decide +kernel
theorem dX9_greatestOf_3 : decode cX9_greatestOf 3 = .ok (.iload_n 2, 1) := by decide +kernel
theorem dX9_greatestOf_4 : decode cX9_greatestOf 4 = .ok (.ifCond .lt 19, 3) := by decide +kernel
theorem dX9_greatestOf_7 : decode cX9_greatestOf 7 = .ok (.lload_n 0, 1) := by decide +kernel
theorem dX9_greatestOf_8 : decode cX9_greatestOf 8 = .ok (.iload_n 2, 1) := by decide +kernel
theorem dX9_greatestOf_9 : decode cX9_greatestOf 9 = .ok (.invokestatic 75, 3) := by decide +kernel
theorem dX9_greatestOf_12 : decode cX9_greatestOf 12 = .ok (.ifCond .eq 5, 3) := by decide +kernel
theorem dX9_greatestOf_15 : decode cX9_greatestOf 15 = .ok (.iload_n 2, 1) := by decide +kernel
theorem dX9_greatestOf_16 : decode cX9_greatestOf 16 = .ok (.ireturn, 1) := by decide +kernel
theorem dX9_greatestOf_17 : decode cX9_greatestOf 17 = .ok (.iinc 2 (-1), 3) := by decide +kernel
theorem dX9_greatestOf_20 : decode cX9_greatestOf 20 = .ok (.goto (-17), 3) := by decide +kernel
theorem dX9_greatestOf_23 : decode cX9_greatestOf 23 = .ok (.bipush (-9), 2) := by decide +kernel
theorem dX9_greatestOf_25 : decode cX9_greatestOf 25 = .ok (.ireturn, 1) := by decide +kernel
theorem dX9_isPerson_0 : decode cX9_isPerson 0 = .ok (.iload_n 1, 1) := by decide +kernel
theorem dX9_isPerson_1 : decode cX9_isPerson 1 = .ok (.iconst 0, 1) := by decide +kernel
theorem dX9_isPerson_2 : decode cX9_isPerson 2 = .ok (.aload_n 0, 1) := by decide +kernel
theorem dX9_isPerson_3 : decode cX9_isPerson 3 = .ok (.getfield 79, 3) := by decide +kernel
theorem dX9_isPerson_6 : decode cX9_isPerson 6 = .ok (.iconst 1, 1) := by decide +kernel
theorem dX9_isPerson_7 : decode cX9_isPerson 7 = .ok (.isub, 1) := by decide +kernel
theorem dX9_isPerson_8 : decode cX9_isPerson 8 = .ok (.invokestatic 82, 3) := by decide +kernel
theorem dX9_isPerson_11 : decode cX9_isPerson 11 = .ok (.ireturn, 1) := by decide +kernel
theorem dX9_isKnower_0 : decode cX9_isKnower 0 = .ok (.iload_n 1, 1) := by decide +kernel
theorem dX9_isKnower_1 : decode cX9_isKnower 1 = .ok (.iconst (-1), 1) := by decide +kernel
theorem dX9_isKnower_2 : decode cX9_isKnower 2 = .ok (.aload_n 0, 1) := by decide +kernel
theorem dX9_isKnower_3 : decode cX9_isKnower 3 = .ok (.getfield 79, 3) := by decide +kernel
theorem dX9_isKnower_6 : decode cX9_isKnower 6 = .ok (.iconst 1, 1) := by decide +kernel
theorem dX9_isKnower_7 : decode cX9_isKnower 7 = .ok (.isub, 1) := by decide +kernel
theorem dX9_isKnower_8 : decode cX9_isKnower 8 = .ok (.invokestatic 82, 3) := by decide +kernel
theorem dX9_isKnower_11 : decode cX9_isKnower 11 = .ok (.ireturn, 1) := by decide +kernel
theorem dX9_knownTo_0 : decode cX9_knownTo 0 = .ok (.iload_n 1, 1) := by decide +kernel
theorem dX9_knownTo_1 : decode cX9_knownTo 1 = .ok (.ifCond .ge 10, 3) := by decide +kernel
theorem dX9_knownTo_4 : decode cX9_knownTo 4 = .ok (.aload_n 0, 1) := by decide +kernel
theorem dX9_knownTo_5 : decode cX9_knownTo 5 = .ok (.getfield 86, 3) := by decide +kernel
theorem dX9_knownTo_8 : decode cX9_knownTo 8 = .ok (.goto 9, 3) := by decide +kernel
theorem dX9_knownTo_11 : decode cX9_knownTo 11 = .ok (.aload_n 0, 1) := by decide +kernel
theorem dX9_knownTo_12 : decode cX9_knownTo 12 = .ok (.getfield 34, 3) := by decide +kernel
theorem dX9_knownTo_15 : decode cX9_knownTo 15 = .ok (.iload_n 1, 1) := by decide +kernel
theorem dX9_knownTo_16 : decode cX9_knownTo 16 = .ok (.laload, 1) := by decide +kernel
theorem dX9_knownTo_17 : decode cX9_knownTo 17 = .ok (.lreturn, 1) := by decide +kernel
theorem dX9_leadOf_0 : decode cX9_leadOf 0 = .ok (.iload_n 0, 1) := by decide +kernel
theorem dX9_leadOf_1 : decode cX9_leadOf 1 = .ok (.tableswitch 133 1 7 #[43, 55, 92, 107, 49, 79, 84], 43) := by decide +kernel
theorem dX9_leadOf_44 : decode cX9_leadOf 44 = .ok (.iload_n 1, 1) := by decide +kernel
theorem dX9_leadOf_45 : decode cX9_leadOf 45 = .ok (.iconst 2, 1) := by decide +kernel
theorem dX9_leadOf_46 : decode cX9_leadOf 46 = .ok (.idiv, 1) := by decide +kernel
theorem dX9_leadOf_47 : decode cX9_leadOf 47 = .ok (.iconst 1, 1) := by decide +kernel
theorem dX9_leadOf_48 : decode cX9_leadOf 48 = .ok (.iadd, 1) := by decide +kernel
theorem dX9_leadOf_49 : decode cX9_leadOf 49 = .ok (.ireturn, 1) := by decide +kernel
theorem dX9_leadOf_50 : decode cX9_leadOf 50 = .ok (.iload_n 1, 1) := by decide +kernel
theorem dX9_leadOf_51 : decode cX9_leadOf 51 = .ok (.iconst 2, 1) := by decide +kernel
theorem dX9_leadOf_52 : decode cX9_leadOf 52 = .ok (.idiv, 1) := by decide +kernel
theorem dX9_leadOf_53 : decode cX9_leadOf 53 = .ok (.iconst 3, 1) := by decide +kernel
theorem dX9_leadOf_54 : decode cX9_leadOf 54 = .ok (.iadd, 1) := by decide +kernel
theorem dX9_leadOf_55 : decode cX9_leadOf 55 = .ok (.ireturn, 1) := by decide +kernel
theorem dX9_leadOf_56 : decode cX9_leadOf 56 = .ok (.iload_n 2, 1) := by decide +kernel
theorem dX9_leadOf_57 : decode cX9_leadOf 57 = .ok (.iconst 3, 1) := by decide +kernel
theorem dX9_leadOf_58 : decode cX9_leadOf 58 = .ok (.irem, 1) := by decide +kernel
theorem dX9_leadOf_59 : decode cX9_leadOf 59 = .ok (.ifCond .ne 7, 3) := by decide +kernel
theorem dX9_leadOf_62 : decode cX9_leadOf 62 = .ok (.iconst 4, 1) := by decide +kernel
theorem dX9_leadOf_63 : decode cX9_leadOf 63 = .ok (.goto 16, 3) := by decide +kernel
theorem dX9_leadOf_66 : decode cX9_leadOf 66 = .ok (.iload_n 2, 1) := by decide +kernel
theorem dX9_leadOf_67 : decode cX9_leadOf 67 = .ok (.iconst 3, 1) := by decide +kernel
theorem dX9_leadOf_68 : decode cX9_leadOf 68 = .ok (.irem, 1) := by decide +kernel
theorem dX9_leadOf_69 : decode cX9_leadOf 69 = .ok (.iconst 1, 1) := by decide +kernel
theorem dX9_leadOf_70 : decode cX9_leadOf 70 = .ok (.if_icmp .ne 7, 3) := by decide +kernel
theorem dX9_leadOf_73 : decode cX9_leadOf 73 = .ok (.iconst 1, 1) := by decide +kernel
theorem dX9_leadOf_74 : decode cX9_leadOf 74 = .ok (.goto 5, 3) := by decide +kernel
theorem dX9_leadOf_77 : decode cX9_leadOf 77 = .ok (.bipush 7, 2) := by decide +kernel
theorem dX9_leadOf_79 : decode cX9_leadOf 79 = .ok (.ireturn, 1) := by decide +kernel
theorem dX9_leadOf_80 : decode cX9_leadOf 80 = .ok (.iload_n 2, 1) := by decide +kernel
theorem dX9_leadOf_81 : decode cX9_leadOf 81 = .ok (.invokestatic 90, 3) := by decide +kernel
theorem dX9_leadOf_84 : decode cX9_leadOf 84 = .ok (.ireturn, 1) := by decide +kernel
theorem dX9_leadOf_85 : decode cX9_leadOf 85 = .ok (.bipush 9, 2) := by decide +kernel
theorem dX9_leadOf_87 : decode cX9_leadOf 87 = .ok (.iload_n 2, 1) := by decide +kernel
theorem dX9_leadOf_88 : decode cX9_leadOf 88 = .ok (.invokestatic 90, 3) := by decide +kernel
theorem dX9_leadOf_91 : decode cX9_leadOf 91 = .ok (.isub, 1) := by decide +kernel
theorem dX9_leadOf_92 : decode cX9_leadOf 92 = .ok (.ireturn, 1) := by decide +kernel
theorem dX9_leadOf_93 : decode cX9_leadOf 93 = .ok (.iload_n 2, 1) := by decide +kernel
theorem dX9_leadOf_94 : decode cX9_leadOf 94 = .ok (.iload_n 1, 1) := by decide +kernel
theorem dX9_leadOf_95 : decode cX9_leadOf 95 = .ok (.iconst 2, 1) := by decide +kernel
theorem dX9_leadOf_96 : decode cX9_leadOf 96 = .ok (.iadd, 1) := by decide +kernel
theorem dX9_leadOf_97 : decode cX9_leadOf 97 = .ok (.irem, 1) := by decide +kernel
theorem dX9_leadOf_98 : decode cX9_leadOf 98 = .ok (.ifCond .ne 8, 3) := by decide +kernel
theorem dX9_leadOf_101 : decode cX9_leadOf 101 = .ok (.bipush 9, 2) := by decide +kernel
theorem dX9_leadOf_103 : decode cX9_leadOf 103 = .ok (.goto 4, 3) := by decide +kernel
theorem dX9_leadOf_106 : decode cX9_leadOf 106 = .ok (.iconst 0, 1) := by decide +kernel
theorem dX9_leadOf_107 : decode cX9_leadOf 107 = .ok (.ireturn, 1) := by decide +kernel
theorem dX9_leadOf_108 : decode cX9_leadOf 108 = .ok (.iload_n 2, 1) := by decide +kernel
theorem dX9_leadOf_109 : decode cX9_leadOf 109 = .ok (.iload_n 1, 1) := by decide +kernel
theorem dX9_leadOf_110 : decode cX9_leadOf 110 = .ok (.iconst 2, 1) := by decide +kernel
theorem dX9_leadOf_111 : decode cX9_leadOf 111 = .ok (.iadd, 1) := by decide +kernel
theorem dX9_leadOf_112 : decode cX9_leadOf 112 = .ok (.irem, 1) := by decide +kernel
theorem dX9_leadOf_113 : decode cX9_leadOf 113 = .ok (.ifCond .ne 8, 3) := by decide +kernel
theorem dX9_leadOf_116 : decode cX9_leadOf 116 = .ok (.bipush 9, 2) := by decide +kernel
theorem dX9_leadOf_118 : decode cX9_leadOf 118 = .ok (.goto 15, 3) := by decide +kernel
theorem dX9_leadOf_121 : decode cX9_leadOf 121 = .ok (.iload_n 2, 1) := by decide +kernel
theorem dX9_leadOf_122 : decode cX9_leadOf 122 = .ok (.iconst 2, 1) := by decide +kernel
theorem dX9_leadOf_123 : decode cX9_leadOf 123 = .ok (.irem, 1) := by decide +kernel
theorem dX9_leadOf_124 : decode cX9_leadOf 124 = .ok (.iconst 1, 1) := by decide +kernel
theorem dX9_leadOf_125 : decode cX9_leadOf 125 = .ok (.if_icmp .ne 7, 3) := by decide +kernel
theorem dX9_leadOf_128 : decode cX9_leadOf 128 = .ok (.iconst 5, 1) := by decide +kernel
theorem dX9_leadOf_129 : decode cX9_leadOf 129 = .ok (.goto 4, 3) := by decide +kernel
theorem dX9_leadOf_132 : decode cX9_leadOf 132 = .ok (.iconst 0, 1) := by decide +kernel
theorem dX9_leadOf_133 : decode cX9_leadOf 133 = .ok (.ireturn, 1) := by decide +kernel
theorem dX9_leadOf_134 : decode cX9_leadOf 134 = .ok (.iload_n 2, 1) := by decide +kernel
theorem dX9_leadOf_135 : decode cX9_leadOf 135 = .ok (.iconst 2, 1) := by decide +kernel
theorem dX9_leadOf_136 : decode cX9_leadOf 136 = .ok (.irem, 1) := by decide +kernel
theorem dX9_leadOf_137 : decode cX9_leadOf 137 = .ok (.ifCond .ne 7, 3) := by decide +kernel
theorem dX9_leadOf_140 : decode cX9_leadOf 140 = .ok (.iconst 0, 1) := by decide +kernel
theorem dX9_leadOf_141 : decode cX9_leadOf 141 = .ok (.goto 4, 3) := by decide +kernel
theorem dX9_leadOf_144 : decode cX9_leadOf 144 = .ok (.iload_n 1, 1) := by decide +kernel
theorem dX9_leadOf_145 : decode cX9_leadOf 145 = .ok (.ireturn, 1) := by decide +kernel
theorem dX9_leadOfChild_0 : decode cX9_leadOfChild 0 = .ok (.iload_n 0, 1) := by decide +kernel
theorem dX9_leadOfChild_1 : decode cX9_leadOfChild 1 = .ok (.iconst 3, 1) := by decide +kernel
theorem dX9_leadOfChild_2 : decode cX9_leadOfChild 2 = .ok (.irem, 1) := by decide +kernel
theorem dX9_leadOfChild_3 : decode cX9_leadOfChild 3 = .ok (.ifCond .ne 7, 3) := by decide +kernel
theorem dX9_leadOfChild_6 : decode cX9_leadOfChild 6 = .ok (.iconst 3, 1) := by decide +kernel
theorem dX9_leadOfChild_7 : decode cX9_leadOfChild 7 = .ok (.goto 16, 3) := by decide +kernel
theorem dX9_leadOfChild_10 : decode cX9_leadOfChild 10 = .ok (.iload_n 0, 1) := by decide +kernel
theorem dX9_leadOfChild_11 : decode cX9_leadOfChild 11 = .ok (.iconst 3, 1) := by decide +kernel
theorem dX9_leadOfChild_12 : decode cX9_leadOfChild 12 = .ok (.irem, 1) := by decide +kernel
theorem dX9_leadOfChild_13 : decode cX9_leadOfChild 13 = .ok (.iconst 1, 1) := by decide +kernel
theorem dX9_leadOfChild_14 : decode cX9_leadOfChild 14 = .ok (.if_icmp .ne 7, 3) := by decide +kernel
theorem dX9_leadOfChild_17 : decode cX9_leadOfChild 17 = .ok (.iconst 0, 1) := by decide +kernel
theorem dX9_leadOfChild_18 : decode cX9_leadOfChild 18 = .ok (.goto 5, 3) := by decide +kernel
theorem dX9_leadOfChild_21 : decode cX9_leadOfChild 21 = .ok (.bipush 6, 2) := by decide +kernel
theorem dX9_leadOfChild_23 : decode cX9_leadOfChild 23 = .ok (.ireturn, 1) := by decide +kernel
theorem dX9_pressOf_0 : decode cX9_pressOf 0 = .ok (.iload_n 0, 1) := by decide +kernel
theorem dX9_pressOf_1 : decode cX9_pressOf 1 = .ok (.tableswitch 61 1 7 #[43, 55, 57, 59, 49, 57, 57], 43) := by decide +kernel
theorem dX9_pressOf_44 : decode cX9_pressOf 44 = .ok (.iconst 4, 1) := by decide +kernel
theorem dX9_pressOf_45 : decode cX9_pressOf 45 = .ok (.iload_n 1, 1) := by decide +kernel
theorem dX9_pressOf_46 : decode cX9_pressOf 46 = .ok (.iconst 3, 1) := by decide +kernel
theorem dX9_pressOf_47 : decode cX9_pressOf 47 = .ok (.idiv, 1) := by decide +kernel
theorem dX9_pressOf_48 : decode cX9_pressOf 48 = .ok (.iadd, 1) := by decide +kernel
theorem dX9_pressOf_49 : decode cX9_pressOf 49 = .ok (.ireturn, 1) := by decide +kernel
theorem dX9_pressOf_50 : decode cX9_pressOf 50 = .ok (.iconst 1, 1) := by decide +kernel
theorem dX9_pressOf_51 : decode cX9_pressOf 51 = .ok (.iload_n 1, 1) := by decide +kernel
theorem dX9_pressOf_52 : decode cX9_pressOf 52 = .ok (.iconst 3, 1) := by decide +kernel
theorem dX9_pressOf_53 : decode cX9_pressOf 53 = .ok (.idiv, 1) := by decide +kernel
theorem dX9_pressOf_54 : decode cX9_pressOf 54 = .ok (.iadd, 1) := by decide +kernel
theorem dX9_pressOf_55 : decode cX9_pressOf 55 = .ok (.ireturn, 1) := by decide +kernel
theorem dX9_pressOf_56 : decode cX9_pressOf 56 = .ok (.iconst 1, 1) := by decide +kernel
theorem dX9_pressOf_57 : decode cX9_pressOf 57 = .ok (.ireturn, 1) := by decide +kernel
theorem dX9_pressOf_58 : decode cX9_pressOf 58 = .ok (.iconst 5, 1) := by decide +kernel
theorem dX9_pressOf_59 : decode cX9_pressOf 59 = .ok (.ireturn, 1) := by decide +kernel
theorem dX9_pressOf_60 : decode cX9_pressOf 60 = .ok (.iconst 0, 1) := by decide +kernel
theorem dX9_pressOf_61 : decode cX9_pressOf 61 = .ok (.ireturn, 1) := by decide +kernel
theorem dX9_pressOf_62 : decode cX9_pressOf 62 = .ok (.iconst 2, 1) := by decide +kernel
theorem dX9_pressOf_63 : decode cX9_pressOf 63 = .ok (.ireturn, 1) := by decide +kernel
theorem dX9_everyOf_0 : decode cX9_everyOf 0 = .ok (.iload_n 0, 1) := by decide +kernel
theorem dX9_everyOf_1 : decode cX9_everyOf 1 = .ok (.tableswitch 67 1 7 #[43, 45, 51, 67, 67, 53, 59], 43) := by decide +kernel
theorem dX9_everyOf_44 : decode cX9_everyOf 44 = .ok (.iconst 1, 1) := by decide +kernel
theorem dX9_everyOf_45 : decode cX9_everyOf 45 = .ok (.ireturn, 1) := by decide +kernel
theorem dX9_everyOf_46 : decode cX9_everyOf 46 = .ok (.iload_n 1, 1) := by decide +kernel
theorem dX9_everyOf_47 : decode cX9_everyOf 47 = .ok (.iconst 2, 1) := by decide +kernel
theorem dX9_everyOf_48 : decode cX9_everyOf 48 = .ok (.idiv, 1) := by decide +kernel
theorem dX9_everyOf_49 : decode cX9_everyOf 49 = .ok (.iconst 2, 1) := by decide +kernel
theorem dX9_everyOf_50 : decode cX9_everyOf 50 = .ok (.iadd, 1) := by decide +kernel
theorem dX9_everyOf_51 : decode cX9_everyOf 51 = .ok (.ireturn, 1) := by decide +kernel
theorem dX9_everyOf_52 : decode cX9_everyOf 52 = .ok (.iconst 5, 1) := by decide +kernel
theorem dX9_everyOf_53 : decode cX9_everyOf 53 = .ok (.ireturn, 1) := by decide +kernel
theorem dX9_everyOf_54 : decode cX9_everyOf 54 = .ok (.iload_n 1, 1) := by decide +kernel
theorem dX9_everyOf_55 : decode cX9_everyOf 55 = .ok (.iconst 2, 1) := by decide +kernel
theorem dX9_everyOf_56 : decode cX9_everyOf 56 = .ok (.idiv, 1) := by decide +kernel
theorem dX9_everyOf_57 : decode cX9_everyOf 57 = .ok (.iconst 3, 1) := by decide +kernel
theorem dX9_everyOf_58 : decode cX9_everyOf 58 = .ok (.iadd, 1) := by decide +kernel
theorem dX9_everyOf_59 : decode cX9_everyOf 59 = .ok (.ireturn, 1) := by decide +kernel
theorem dX9_everyOf_60 : decode cX9_everyOf 60 = .ok (.iconst 2, 1) := by decide +kernel
theorem dX9_everyOf_61 : decode cX9_everyOf 61 = .ok (.iload_n 1, 1) := by decide +kernel
theorem dX9_everyOf_62 : decode cX9_everyOf 62 = .ok (.iconst 2, 1) := by decide +kernel
theorem dX9_everyOf_63 : decode cX9_everyOf 63 = .ok (.idiv, 1) := by decide +kernel
theorem dX9_everyOf_64 : decode cX9_everyOf 64 = .ok (.iconst 3, 1) := by decide +kernel
theorem dX9_everyOf_65 : decode cX9_everyOf 65 = .ok (.iadd, 1) := by decide +kernel
theorem dX9_everyOf_66 : decode cX9_everyOf 66 = .ok (.imul, 1) := by decide +kernel
theorem dX9_everyOf_67 : decode cX9_everyOf 67 = .ok (.ireturn, 1) := by decide +kernel
theorem dX9_everyOf_68 : decode cX9_everyOf 68 = .ok (.iconst 3, 1) := by decide +kernel
theorem dX9_everyOf_69 : decode cX9_everyOf 69 = .ok (.ireturn, 1) := by decide +kernel
theorem dX9_picksOf_0 : decode cX9_picksOf 0 = .ok (.iload_n 0, 1) := by decide +kernel
theorem dX9_picksOf_1 : decode cX9_picksOf 1 = .ok (.iconst 1, 1) := by decide +kernel
theorem dX9_picksOf_2 : decode cX9_picksOf 2 = .ok (.if_icmp .eq 9, 3) := by decide +kernel
theorem dX9_picksOf_5 : decode cX9_picksOf 5 = .ok (.iload_n 0, 1) := by decide +kernel
theorem dX9_picksOf_6 : decode cX9_picksOf 6 = .ok (.bipush 7, 2) := by decide +kernel
theorem dX9_picksOf_8 : decode cX9_picksOf 8 = .ok (.if_icmp .ne 7, 3) := by decide +kernel
theorem dX9_picksOf_11 : decode cX9_picksOf 11 = .ok (.iconst 3, 1) := by decide +kernel
theorem dX9_picksOf_12 : decode cX9_picksOf 12 = .ok (.goto 17, 3) := by decide +kernel
theorem dX9_picksOf_15 : decode cX9_picksOf 15 = .ok (.iload_n 0, 1) := by decide +kernel
theorem dX9_picksOf_16 : decode cX9_picksOf 16 = .ok (.ifCond .eq 8, 3) := by decide +kernel
theorem dX9_picksOf_19 : decode cX9_picksOf 19 = .ok (.iload_n 0, 1) := by decide +kernel
theorem dX9_picksOf_20 : decode cX9_picksOf 20 = .ok (.iconst 3, 1) := by decide +kernel
theorem dX9_picksOf_21 : decode cX9_picksOf 21 = .ok (.if_icmp .ne 7, 3) := by decide +kernel
theorem dX9_picksOf_24 : decode cX9_picksOf 24 = .ok (.iconst 1, 1) := by decide +kernel
theorem dX9_picksOf_25 : decode cX9_picksOf 25 = .ok (.goto 4, 3) := by decide +kernel
theorem dX9_picksOf_28 : decode cX9_picksOf 28 = .ok (.iconst 2, 1) := by decide +kernel
theorem dX9_picksOf_29 : decode cX9_picksOf 29 = .ok (.ireturn, 1) := by decide +kernel
theorem dX9_isBackward_0 : decode cX9_isBackward 0 = .ok (.iload_n 0, 1) := by decide +kernel
theorem dX9_isBackward_1 : decode cX9_isBackward 1 = .ok (.iconst 4, 1) := by decide +kernel
theorem dX9_isBackward_2 : decode cX9_isBackward 2 = .ok (.if_icmp .eq 9, 3) := by decide +kernel
theorem dX9_isBackward_5 : decode cX9_isBackward 5 = .ok (.iload_n 0, 1) := by decide +kernel
theorem dX9_isBackward_6 : decode cX9_isBackward 6 = .ok (.bipush 7, 2) := by decide +kernel
theorem dX9_isBackward_8 : decode cX9_isBackward 8 = .ok (.if_icmp .ne 7, 3) := by decide +kernel
theorem dX9_isBackward_11 : decode cX9_isBackward 11 = .ok (.iconst 1, 1) := by decide +kernel
theorem dX9_isBackward_12 : decode cX9_isBackward 12 = .ok (.goto 4, 3) := by decide +kernel
theorem dX9_isBackward_15 : decode cX9_isBackward 15 = .ok (.iconst 0, 1) := by decide +kernel
theorem dX9_isBackward_16 : decode cX9_isBackward 16 = .ok (.ireturn, 1) := by decide +kernel
theorem dX9_putIn_0 : decode cX9_putIn 0 = .ok (.aload_n 0, 1) := by decide +kernel
theorem dX9_putIn_1 : decode cX9_putIn 1 = .ok (.getfield 86, 3) := by decide +kernel
theorem dX9_putIn_4 : decode cX9_putIn 4 = .ok (.aload_n 0, 1) := by decide +kernel
theorem dX9_putIn_5 : decode cX9_putIn 5 = .ok (.getfield 94, 3) := by decide +kernel
theorem dX9_putIn_8 : decode cX9_putIn 8 = .ok (.ldc2_w 97, 3) := by decide +kernel
theorem dX9_putIn_11 : decode cX9_putIn 11 = .ok (.lxor, 1) := by decide +kernel
theorem dX9_putIn_12 : decode cX9_putIn 12 = .ok (.land, 1) := by decide +kernel
theorem dX9_putIn_13 : decode cX9_putIn 13 = .ok (.aload_n 0, 1) := by decide +kernel
theorem dX9_putIn_14 : decode cX9_putIn 14 = .ok (.getfield 34, 3) := by decide +kernel
theorem dX9_putIn_17 : decode cX9_putIn 17 = .ok (.iload_n 1, 1) := by decide +kernel
theorem dX9_putIn_18 : decode cX9_putIn 18 = .ok (.laload, 1) := by decide +kernel
theorem dX9_putIn_19 : decode cX9_putIn 19 = .ok (.ldc2_w 97, 3) := by decide +kernel
theorem dX9_putIn_22 : decode cX9_putIn 22 = .ok (.lxor, 1) := by decide +kernel
theorem dX9_putIn_23 : decode cX9_putIn 23 = .ok (.land, 1) := by decide +kernel
theorem dX9_putIn_24 : decode cX9_putIn 24 = .ok (.iconst 0, 1) := by decide +kernel
theorem dX9_putIn_25 : decode cX9_putIn 25 = .ok (.invokestatic 99, 3) := by decide +kernel
theorem dX9_putIn_28 : decode cX9_putIn 28 = .ok (.istore_n 2, 1) := by decide +kernel
theorem dX9_putIn_29 : decode cX9_putIn 29 = .ok (.iload_n 2, 1) := by decide +kernel
theorem dX9_putIn_30 : decode cX9_putIn 30 = .ok (.ifCond .ge 7, 3) := by decide +kernel
theorem dX9_putIn_33 : decode cX9_putIn 33 = .ok (.lconst 0, 1) := by decide +kernel
theorem dX9_putIn_34 : decode cX9_putIn 34 = .ok (.goto 6, 3) := by decide +kernel
theorem dX9_putIn_37 : decode cX9_putIn 37 = .ok (.lconst 1, 1) := by decide +kernel
theorem dX9_putIn_38 : decode cX9_putIn 38 = .ok (.iload_n 2, 1) := by decide +kernel
theorem dX9_putIn_39 : decode cX9_putIn 39 = .ok (.lshl, 1) := by decide +kernel
theorem dX9_putIn_40 : decode cX9_putIn 40 = .ok (.lreturn, 1) := by decide +kernel
theorem dX9_leftOf_0 : decode cX9_leftOf 0 = .ok (.aload_n 0, 1) := by decide +kernel
theorem dX9_leftOf_1 : decode cX9_leftOf 1 = .ok (.getfield 41, 3) := by decide +kernel
theorem dX9_leftOf_4 : decode cX9_leftOf 4 = .ok (.iload_n 1, 1) := by decide +kernel
theorem dX9_leftOf_5 : decode cX9_leftOf 5 = .ok (.laload, 1) := by decide +kernel
theorem dX9_leftOf_6 : decode cX9_leftOf 6 = .ok (.lstore_n 2, 1) := by decide +kernel
theorem dX9_leftOf_7 : decode cX9_leftOf 7 = .ok (.aload_n 0, 1) := by decide +kernel
theorem dX9_leftOf_8 : decode cX9_leftOf 8 = .ok (.getfield 28, 3) := by decide +kernel
theorem dX9_leftOf_11 : decode cX9_leftOf 11 = .ok (.iload_n 1, 1) := by decide +kernel
theorem dX9_leftOf_12 : decode cX9_leftOf 12 = .ok (.iaload, 1) := by decide +kernel
theorem dX9_leftOf_13 : decode cX9_leftOf 13 = .ok (.ifCond .eq 20, 3) := by decide +kernel
theorem dX9_leftOf_16 : decode cX9_leftOf 16 = .ok (.aload_n 0, 1) := by decide +kernel
theorem dX9_leftOf_17 : decode cX9_leftOf 17 = .ok (.getfield 103, 3) := by decide +kernel
theorem dX9_leftOf_20 : decode cX9_leftOf 20 = .ok (.ifCond .eq 15, 3) := by decide +kernel
theorem dX9_leftOf_23 : decode cX9_leftOf 23 = .ok (.aload_n 0, 1) := by decide +kernel
theorem dX9_leftOf_24 : decode cX9_leftOf 24 = .ok (.getfield 28, 3) := by decide +kernel
theorem dX9_leftOf_27 : decode cX9_leftOf 27 = .ok (.iload_n 1, 1) := by decide +kernel
theorem dX9_leftOf_28 : decode cX9_leftOf 28 = .ok (.iaload, 1) := by decide +kernel
theorem dX9_leftOf_29 : decode cX9_leftOf 29 = .ok (.iconst 5, 1) := by decide +kernel
theorem dX9_leftOf_30 : decode cX9_leftOf 30 = .ok (.if_icmp .ne 5, 3) := by decide +kernel
theorem dX9_leftOf_33 : decode cX9_leftOf 33 = .ok (.lload_n 2, 1) := by decide +kernel
theorem dX9_leftOf_34 : decode cX9_leftOf 34 = .ok (.lreturn, 1) := by decide +kernel
theorem dX9_leftOf_35 : decode cX9_leftOf 35 = .ok (.aload_n 0, 1) := by decide +kernel
theorem dX9_leftOf_36 : decode cX9_leftOf 36 = .ok (.dup, 1) := by decide +kernel
theorem dX9_leftOf_37 : decode cX9_leftOf 37 = .ok (.getfield 86, 3) := by decide +kernel
theorem dX9_leftOf_40 : decode cX9_leftOf 40 = .ok (.lload_n 2, 1) := by decide +kernel
theorem dX9_leftOf_41 : decode cX9_leftOf 41 = .ok (.lor, 1) := by decide +kernel
theorem dX9_leftOf_42 : decode cX9_leftOf 42 = .ok (.putfield 86, 3) := by decide +kernel
theorem dX9_leftOf_45 : decode cX9_leftOf 45 = .ok (.aload_n 0, 1) := by decide +kernel
theorem dX9_leftOf_46 : decode cX9_leftOf 46 = .ok (.getfield 107, 3) := by decide +kernel
theorem dX9_leftOf_49 : decode cX9_leftOf 49 = .ok (.ifCond .ne 34, 3) := by decide +kernel
theorem dX9_leftOf_52 : decode cX9_leftOf 52 = .ok (.aload_n 0, 1) := by decide +kernel
theorem dX9_leftOf_53 : decode cX9_leftOf 53 = .ok (.getfield 28, 3) := by decide +kernel
theorem dX9_leftOf_56 : decode cX9_leftOf 56 = .ok (.iload_n 1, 1) := by decide +kernel
theorem dX9_leftOf_57 : decode cX9_leftOf 57 = .ok (.iaload, 1) := by decide +kernel
theorem dX9_leftOf_58 : decode cX9_leftOf 58 = .ok (.aload_n 0, 1) := by decide +kernel
theorem dX9_leftOf_59 : decode cX9_leftOf 59 = .ok (.getfield 31, 3) := by decide +kernel
theorem dX9_leftOf_62 : decode cX9_leftOf 62 = .ok (.iload_n 1, 1) := by decide +kernel
theorem dX9_leftOf_63 : decode cX9_leftOf 63 = .ok (.iaload, 1) := by decide +kernel
theorem dX9_leftOf_64 : decode cX9_leftOf 64 = .ok (.iadd, 1) := by decide +kernel
theorem dX9_leftOf_65 : decode cX9_leftOf 65 = .ok (.aload_n 0, 1) := by decide +kernel
theorem dX9_leftOf_66 : decode cX9_leftOf 66 = .ok (.getfield 68, 3) := by decide +kernel
theorem dX9_leftOf_69 : decode cX9_leftOf 69 = .ok (.if_icmp .gt 14, 3) := by decide +kernel
theorem dX9_leftOf_72 : decode cX9_leftOf 72 = .ok (.lload_n 2, 1) := by decide +kernel
theorem dX9_leftOf_73 : decode cX9_leftOf 73 = .ok (.aload_n 0, 1) := by decide +kernel
theorem dX9_leftOf_74 : decode cX9_leftOf 74 = .ok (.getfield 94, 3) := by decide +kernel
theorem dX9_leftOf_77 : decode cX9_leftOf 77 = .ok (.land, 1) := by decide +kernel
theorem dX9_leftOf_78 : decode cX9_leftOf 78 = .ok (.lconst 0, 1) := by decide +kernel
theorem dX9_leftOf_79 : decode cX9_leftOf 79 = .ok (.lcmp, 1) := by decide +kernel
theorem dX9_leftOf_80 : decode cX9_leftOf 80 = .ok (.ifCond .ne 5, 3) := by decide +kernel
theorem dX9_leftOf_83 : decode cX9_leftOf 83 = .ok (.lload_n 2, 1) := by decide +kernel
theorem dX9_leftOf_84 : decode cX9_leftOf 84 = .ok (.lreturn, 1) := by decide +kernel
theorem dX9_leftOf_85 : decode cX9_leftOf 85 = .ok (.aload_n 0, 1) := by decide +kernel
theorem dX9_leftOf_86 : decode cX9_leftOf 86 = .ok (.aload_n 0, 1) := by decide +kernel
theorem dX9_leftOf_87 : decode cX9_leftOf 87 = .ok (.getfield 110, 3) := by decide +kernel
theorem dX9_leftOf_90 : decode cX9_leftOf 90 = .ok (.lload_n 2, 1) := by decide +kernel
theorem dX9_leftOf_91 : decode cX9_leftOf 91 = .ok (.aload_n 0, 1) := by decide +kernel
theorem dX9_leftOf_92 : decode cX9_leftOf 92 = .ok (.getfield 94, 3) := by decide +kernel
theorem dX9_leftOf_95 : decode cX9_leftOf 95 = .ok (.land, 1) := by decide +kernel
theorem dX9_leftOf_96 : decode cX9_leftOf 96 = .ok (.invokestatic 113, 3) := by decide +kernel
theorem dX9_leftOf_99 : decode cX9_leftOf 99 = .ok (.iadd, 1) := by decide +kernel
theorem dX9_leftOf_100 : decode cX9_leftOf 100 = .ok (.sipush 9999, 3) := by decide +kernel
theorem dX9_leftOf_103 : decode cX9_leftOf 103 = .ok (.invokestatic 117, 3) := by decide +kernel
theorem dX9_leftOf_106 : decode cX9_leftOf 106 = .ok (.putfield 110, 3) := by decide +kernel
theorem dX9_leftOf_109 : decode cX9_leftOf 109 = .ok (.lload_n 2, 1) := by decide +kernel
theorem dX9_leftOf_110 : decode cX9_leftOf 110 = .ok (.aload_n 0, 1) := by decide +kernel
theorem dX9_leftOf_111 : decode cX9_leftOf 111 = .ok (.getfield 94, 3) := by decide +kernel
theorem dX9_leftOf_114 : decode cX9_leftOf 114 = .ok (.ldc2_w 97, 3) := by decide +kernel
theorem dX9_leftOf_117 : decode cX9_leftOf 117 = .ok (.lxor, 1) := by decide +kernel
theorem dX9_leftOf_118 : decode cX9_leftOf 118 = .ok (.land, 1) := by decide +kernel
theorem dX9_leftOf_119 : decode cX9_leftOf 119 = .ok (.lstore_n 2, 1) := by decide +kernel
theorem dX9_leftOf_120 : decode cX9_leftOf 120 = .ok (.lload_n 2, 1) := by decide +kernel
theorem dX9_leftOf_121 : decode cX9_leftOf 121 = .ok (.lconst 0, 1) := by decide +kernel
theorem dX9_leftOf_122 : decode cX9_leftOf 122 = .ok (.lcmp, 1) := by decide +kernel
theorem dX9_leftOf_123 : decode cX9_leftOf 123 = .ok (.ifCond .ne 16, 3) := by decide +kernel
theorem dX9_leftOf_126 : decode cX9_leftOf 126 = .ok (.aload_n 0, 1) := by decide +kernel
theorem dX9_leftOf_127 : decode cX9_leftOf 127 = .ok (.aload_n 0, 1) := by decide +kernel
theorem dX9_leftOf_128 : decode cX9_leftOf 128 = .ok (.getfield 25, 3) := by decide +kernel
theorem dX9_leftOf_131 : decode cX9_leftOf 131 = .ok (.iload_n 1, 1) := by decide +kernel
theorem dX9_leftOf_132 : decode cX9_leftOf 132 = .ok (.iaload, 1) := by decide +kernel
theorem dX9_leftOf_133 : decode cX9_leftOf 133 = .ok (.invokevirtual 121, 3) := by decide +kernel
theorem dX9_leftOf_136 : decode cX9_leftOf 136 = .ok (.goto 4, 3) := by decide +kernel
theorem dX9_leftOf_139 : decode cX9_leftOf 139 = .ok (.lload_n 2, 1) := by decide +kernel
theorem dX9_leftOf_140 : decode cX9_leftOf 140 = .ok (.lreturn, 1) := by decide +kernel
theorem dX9_hasLetter_0 : decode cX9_hasLetter 0 = .ok (.aload_n 0, 1) := by decide +kernel
theorem dX9_hasLetter_1 : decode cX9_hasLetter 1 = .ok (.iload_n 1, 1) := by decide +kernel
theorem dX9_hasLetter_2 : decode cX9_hasLetter 2 = .ok (.invokevirtual 125, 3) := by decide +kernel
theorem dX9_hasLetter_5 : decode cX9_hasLetter 5 = .ok (.lstore_n 2, 1) := by decide +kernel
theorem dX9_hasLetter_6 : decode cX9_hasLetter 6 = .ok (.lload_n 2, 1) := by decide +kernel
theorem dX9_hasLetter_7 : decode cX9_hasLetter 7 = .ok (.lconst 0, 1) := by decide +kernel
theorem dX9_hasLetter_8 : decode cX9_hasLetter 8 = .ok (.lcmp, 1) := by decide +kernel
theorem dX9_hasLetter_9 : decode cX9_hasLetter 9 = .ok (.ifCond .ne 32, 3) := by decide +kernel
theorem dX9_hasLetter_12 : decode cX9_hasLetter 12 = .ok (.aload_n 0, 1) := by decide +kernel
theorem dX9_hasLetter_13 : decode cX9_hasLetter 13 = .ok (.aload_n 0, 1) := by decide +kernel
theorem dX9_hasLetter_14 : decode cX9_hasLetter 14 = .ok (.getfield 128, 3) := by decide +kernel
theorem dX9_hasLetter_17 : decode cX9_hasLetter 17 = .ok (.iconst 1, 1) := by decide +kernel
theorem dX9_hasLetter_18 : decode cX9_hasLetter 18 = .ok (.iadd, 1) := by decide +kernel
theorem dX9_hasLetter_19 : decode cX9_hasLetter 19 = .ok (.sipush 999, 3) := by decide +kernel
theorem dX9_hasLetter_22 : decode cX9_hasLetter 22 = .ok (.invokestatic 117, 3) := by decide +kernel
theorem dX9_hasLetter_25 : decode cX9_hasLetter 25 = .ok (.putfield 128, 3) := by decide +kernel
theorem dX9_hasLetter_28 : decode cX9_hasLetter 28 = .ok (.aload_n 0, 1) := by decide +kernel
theorem dX9_hasLetter_29 : decode cX9_hasLetter 29 = .ok (.dup, 1) := by decide +kernel
theorem dX9_hasLetter_30 : decode cX9_hasLetter 30 = .ok (.getfield 131, 3) := by decide +kernel
theorem dX9_hasLetter_33 : decode cX9_hasLetter 33 = .ok (.iconst 1, 1) := by decide +kernel
theorem dX9_hasLetter_34 : decode cX9_hasLetter 34 = .ok (.iadd, 1) := by decide +kernel
theorem dX9_hasLetter_35 : decode cX9_hasLetter 35 = .ok (.putfield 131, 3) := by decide +kernel
theorem dX9_hasLetter_38 : decode cX9_hasLetter 38 = .ok (.goto 18, 3) := by decide +kernel
theorem dX9_hasLetter_41 : decode cX9_hasLetter 41 = .ok (.aload_n 0, 1) := by decide +kernel
theorem dX9_hasLetter_42 : decode cX9_hasLetter 42 = .ok (.getfield 34, 3) := by decide +kernel
theorem dX9_hasLetter_45 : decode cX9_hasLetter 45 = .ok (.aload_n 0, 1) := by decide +kernel
theorem dX9_hasLetter_46 : decode cX9_hasLetter 46 = .ok (.getfield 25, 3) := by decide +kernel
theorem dX9_hasLetter_49 : decode cX9_hasLetter 49 = .ok (.iload_n 1, 1) := by decide +kernel
theorem dX9_hasLetter_50 : decode cX9_hasLetter 50 = .ok (.iaload, 1) := by decide +kernel
theorem dX9_hasLetter_51 : decode cX9_hasLetter 51 = .ok (.dup2, 1) := by decide +kernel
theorem dX9_hasLetter_52 : decode cX9_hasLetter 52 = .ok (.laload, 1) := by decide +kernel
theorem dX9_hasLetter_53 : decode cX9_hasLetter 53 = .ok (.lload_n 2, 1) := by decide +kernel
theorem dX9_hasLetter_54 : decode cX9_hasLetter 54 = .ok (.lor, 1) := by decide +kernel
theorem dX9_hasLetter_55 : decode cX9_hasLetter 55 = .ok (.lastore, 1) := by decide +kernel
theorem dX9_hasLetter_56 : decode cX9_hasLetter 56 = .ok (.return_, 1) := by decide +kernel
theorem dX9_leavesBag_0 : decode cX9_leavesBag 0 = .ok (.aload_n 0, 1) := by decide +kernel
theorem dX9_leavesBag_1 : decode cX9_leavesBag 1 = .ok (.dup, 1) := by decide +kernel
theorem dX9_leavesBag_2 : decode cX9_leavesBag 2 = .ok (.getfield 134, 3) := by decide +kernel
theorem dX9_leavesBag_5 : decode cX9_leavesBag 5 = .ok (.iconst 1, 1) := by decide +kernel
theorem dX9_leavesBag_6 : decode cX9_leavesBag 6 = .ok (.isub, 1) := by decide +kernel
theorem dX9_leavesBag_7 : decode cX9_leavesBag 7 = .ok (.putfield 134, 3) := by decide +kernel
theorem dX9_leavesBag_10 : decode cX9_leavesBag 10 = .ok (.iload_n 1, 1) := by decide +kernel
theorem dX9_leavesBag_11 : decode cX9_leavesBag 11 = .ok (.istore_n 2, 1) := by decide +kernel
theorem dX9_leavesBag_12 : decode cX9_leavesBag 12 = .ok (.iload_n 2, 1) := by decide +kernel
theorem dX9_leavesBag_13 : decode cX9_leavesBag 13 = .ok (.aload_n 0, 1) := by decide +kernel
theorem dX9_leavesBag_14 : decode cX9_leavesBag 14 = .ok (.getfield 134, 3) := by decide +kernel
theorem dX9_leavesBag_17 : decode cX9_leavesBag 17 = .ok (.if_icmp .ge 79, 3) := by decide +kernel
theorem dX9_leavesBag_20 : decode cX9_leavesBag 20 = .ok (.aload_n 0, 1) := by decide +kernel
theorem dX9_leavesBag_21 : decode cX9_leavesBag 21 = .ok (.getfield 22, 3) := by decide +kernel
theorem dX9_leavesBag_24 : decode cX9_leavesBag 24 = .ok (.iload_n 2, 1) := by decide +kernel
theorem dX9_leavesBag_25 : decode cX9_leavesBag 25 = .ok (.aload_n 0, 1) := by decide +kernel
theorem dX9_leavesBag_26 : decode cX9_leavesBag 26 = .ok (.getfield 22, 3) := by decide +kernel
theorem dX9_leavesBag_29 : decode cX9_leavesBag 29 = .ok (.iload_n 2, 1) := by decide +kernel
theorem dX9_leavesBag_30 : decode cX9_leavesBag 30 = .ok (.iconst 1, 1) := by decide +kernel
theorem dX9_leavesBag_31 : decode cX9_leavesBag 31 = .ok (.iadd, 1) := by decide +kernel
theorem dX9_leavesBag_32 : decode cX9_leavesBag 32 = .ok (.iaload, 1) := by decide +kernel
theorem dX9_leavesBag_33 : decode cX9_leavesBag 33 = .ok (.iastore, 1) := by decide +kernel
theorem dX9_leavesBag_34 : decode cX9_leavesBag 34 = .ok (.aload_n 0, 1) := by decide +kernel
theorem dX9_leavesBag_35 : decode cX9_leavesBag 35 = .ok (.getfield 25, 3) := by decide +kernel
theorem dX9_leavesBag_38 : decode cX9_leavesBag 38 = .ok (.iload_n 2, 1) := by decide +kernel
theorem dX9_leavesBag_39 : decode cX9_leavesBag 39 = .ok (.aload_n 0, 1) := by decide +kernel
theorem dX9_leavesBag_40 : decode cX9_leavesBag 40 = .ok (.getfield 25, 3) := by decide +kernel
theorem dX9_leavesBag_43 : decode cX9_leavesBag 43 = .ok (.iload_n 2, 1) := by decide +kernel
theorem dX9_leavesBag_44 : decode cX9_leavesBag 44 = .ok (.iconst 1, 1) := by decide +kernel
theorem dX9_leavesBag_45 : decode cX9_leavesBag 45 = .ok (.iadd, 1) := by decide +kernel
theorem dX9_leavesBag_46 : decode cX9_leavesBag 46 = .ok (.iaload, 1) := by decide +kernel
theorem dX9_leavesBag_47 : decode cX9_leavesBag 47 = .ok (.iastore, 1) := by decide +kernel
theorem dX9_leavesBag_48 : decode cX9_leavesBag 48 = .ok (.aload_n 0, 1) := by decide +kernel
theorem dX9_leavesBag_49 : decode cX9_leavesBag 49 = .ok (.getfield 28, 3) := by decide +kernel
theorem dX9_leavesBag_52 : decode cX9_leavesBag 52 = .ok (.iload_n 2, 1) := by decide +kernel
theorem dX9_leavesBag_53 : decode cX9_leavesBag 53 = .ok (.aload_n 0, 1) := by decide +kernel
theorem dX9_leavesBag_54 : decode cX9_leavesBag 54 = .ok (.getfield 28, 3) := by decide +kernel
theorem dX9_leavesBag_57 : decode cX9_leavesBag 57 = .ok (.iload_n 2, 1) := by decide +kernel
theorem dX9_leavesBag_58 : decode cX9_leavesBag 58 = .ok (.iconst 1, 1) := by decide +kernel
theorem dX9_leavesBag_59 : decode cX9_leavesBag 59 = .ok (.iadd, 1) := by decide +kernel
theorem dX9_leavesBag_60 : decode cX9_leavesBag 60 = .ok (.iaload, 1) := by decide +kernel
theorem dX9_leavesBag_61 : decode cX9_leavesBag 61 = .ok (.iastore, 1) := by decide +kernel
theorem dX9_leavesBag_62 : decode cX9_leavesBag 62 = .ok (.aload_n 0, 1) := by decide +kernel
theorem dX9_leavesBag_63 : decode cX9_leavesBag 63 = .ok (.getfield 31, 3) := by decide +kernel
theorem dX9_leavesBag_66 : decode cX9_leavesBag 66 = .ok (.iload_n 2, 1) := by decide +kernel
theorem dX9_leavesBag_67 : decode cX9_leavesBag 67 = .ok (.aload_n 0, 1) := by decide +kernel
theorem dX9_leavesBag_68 : decode cX9_leavesBag 68 = .ok (.getfield 31, 3) := by decide +kernel
theorem dX9_leavesBag_71 : decode cX9_leavesBag 71 = .ok (.iload_n 2, 1) := by decide +kernel
theorem dX9_leavesBag_72 : decode cX9_leavesBag 72 = .ok (.iconst 1, 1) := by decide +kernel
theorem dX9_leavesBag_73 : decode cX9_leavesBag 73 = .ok (.iadd, 1) := by decide +kernel
theorem dX9_leavesBag_74 : decode cX9_leavesBag 74 = .ok (.iaload, 1) := by decide +kernel
theorem dX9_leavesBag_75 : decode cX9_leavesBag 75 = .ok (.iastore, 1) := by decide +kernel
theorem dX9_leavesBag_76 : decode cX9_leavesBag 76 = .ok (.aload_n 0, 1) := by decide +kernel
theorem dX9_leavesBag_77 : decode cX9_leavesBag 77 = .ok (.getfield 41, 3) := by decide +kernel
theorem dX9_leavesBag_80 : decode cX9_leavesBag 80 = .ok (.iload_n 2, 1) := by decide +kernel
theorem dX9_leavesBag_81 : decode cX9_leavesBag 81 = .ok (.aload_n 0, 1) := by decide +kernel
theorem dX9_leavesBag_82 : decode cX9_leavesBag 82 = .ok (.getfield 41, 3) := by decide +kernel
theorem dX9_leavesBag_85 : decode cX9_leavesBag 85 = .ok (.iload_n 2, 1) := by decide +kernel
theorem dX9_leavesBag_86 : decode cX9_leavesBag 86 = .ok (.iconst 1, 1) := by decide +kernel
theorem dX9_leavesBag_87 : decode cX9_leavesBag 87 = .ok (.iadd, 1) := by decide +kernel
theorem dX9_leavesBag_88 : decode cX9_leavesBag 88 = .ok (.laload, 1) := by decide +kernel
theorem dX9_leavesBag_89 : decode cX9_leavesBag 89 = .ok (.lastore, 1) := by decide +kernel
theorem dX9_leavesBag_90 : decode cX9_leavesBag 90 = .ok (.iinc 2 1, 3) := by decide +kernel
theorem dX9_leavesBag_93 : decode cX9_leavesBag 93 = .ok (.goto (-81), 3) := by decide +kernel
theorem dX9_leavesBag_96 : decode cX9_leavesBag 96 = .ok (.return_, 1) := by decide +kernel
theorem dX9_picked_0 : decode cX9_picked 0 = .ok (.aload_n 0, 1) := by decide +kernel
theorem dX9_picked_1 : decode cX9_picked 1 = .ok (.getfield 34, 3) := by decide +kernel
theorem dX9_picked_4 : decode cX9_picked 4 = .ok (.iload_n 1, 1) := by decide +kernel
theorem dX9_picked_5 : decode cX9_picked 5 = .ok (.laload, 1) := by decide +kernel
theorem dX9_picked_6 : decode cX9_picked 6 = .ok (.aload_n 0, 1) := by decide +kernel
theorem dX9_picked_7 : decode cX9_picked 7 = .ok (.getfield 38, 3) := by decide +kernel
theorem dX9_picked_10 : decode cX9_picked 10 = .ok (.iload_n 1, 1) := by decide +kernel
theorem dX9_picked_11 : decode cX9_picked 11 = .ok (.laload, 1) := by decide +kernel
theorem dX9_picked_12 : decode cX9_picked 12 = .ok (.ldc2_w 97, 3) := by decide +kernel
theorem dX9_picked_15 : decode cX9_picked 15 = .ok (.lxor, 1) := by decide +kernel
theorem dX9_picked_16 : decode cX9_picked 16 = .ok (.land, 1) := by decide +kernel
theorem dX9_picked_17 : decode cX9_picked 17 = .ok (.lstore_n 2, 1) := by decide +kernel
theorem dX9_picked_18 : decode cX9_picked 18 = .ok (.lconst 0, 1) := by decide +kernel
theorem dX9_picked_19 : decode cX9_picked 19 = .ok (.lstore 4, 2) := by decide +kernel
theorem dX9_picked_21 : decode cX9_picked 21 = .ok (.aload_n 0, 1) := by decide +kernel
theorem dX9_picked_22 : decode cX9_picked 22 = .ok (.getfield 13, 3) := by decide +kernel
theorem dX9_picked_25 : decode cX9_picked 25 = .ok (.iload_n 1, 1) := by decide +kernel
theorem dX9_picked_26 : decode cX9_picked 26 = .ok (.iaload, 1) := by decide +kernel
theorem dX9_picked_27 : decode cX9_picked 27 = .ok (.invokestatic 137, 3) := by decide +kernel
theorem dX9_picked_30 : decode cX9_picked 30 = .ok (.istore 6, 2) := by decide +kernel
theorem dX9_picked_32 : decode cX9_picked 32 = .ok (.iload 6, 2) := by decide +kernel
theorem dX9_picked_34 : decode cX9_picked 34 = .ok (.ifCond .le 59, 3) := by decide +kernel
theorem dX9_picked_37 : decode cX9_picked 37 = .ok (.lload_n 2, 1) := by decide +kernel
theorem dX9_picked_38 : decode cX9_picked 38 = .ok (.lconst 0, 1) := by decide +kernel
theorem dX9_picked_39 : decode cX9_picked 39 = .ok (.lcmp, 1) := by decide +kernel
theorem dX9_picked_40 : decode cX9_picked 40 = .ok (.ifCond .eq 53, 3) := by decide +kernel
theorem dX9_picked_43 : decode cX9_picked 43 = .ok (.lconst 1, 1) := by decide +kernel
theorem dX9_picked_44 : decode cX9_picked 44 = .ok (.aload_n 0, 1) := by decide +kernel
theorem dX9_picked_45 : decode cX9_picked 45 = .ok (.getfield 13, 3) := by decide +kernel
theorem dX9_picked_48 : decode cX9_picked 48 = .ok (.iload_n 1, 1) := by decide +kernel
theorem dX9_picked_49 : decode cX9_picked 49 = .ok (.iaload, 1) := by decide +kernel
theorem dX9_picked_50 : decode cX9_picked 50 = .ok (.invokestatic 140, 3) := by decide +kernel
theorem dX9_picked_53 : decode cX9_picked 53 = .ok (.ifCond .eq 10, 3) := by decide +kernel
theorem dX9_picked_56 : decode cX9_picked 56 = .ok (.lload_n 2, 1) := by decide +kernel
theorem dX9_picked_57 : decode cX9_picked 57 = .ok (.invokestatic 144, 3) := by decide +kernel
theorem dX9_picked_60 : decode cX9_picked 60 = .ok (.goto 8, 3) := by decide +kernel
theorem dX9_picked_63 : decode cX9_picked 63 = .ok (.lload_n 2, 1) := by decide +kernel
theorem dX9_picked_64 : decode cX9_picked 64 = .ok (.iconst 0, 1) := by decide +kernel
theorem dX9_picked_65 : decode cX9_picked 65 = .ok (.invokestatic 99, 3) := by decide +kernel
theorem dX9_picked_68 : decode cX9_picked 68 = .ok (.lshl, 1) := by decide +kernel
theorem dX9_picked_69 : decode cX9_picked 69 = .ok (.lstore 7, 2) := by decide +kernel
theorem dX9_picked_71 : decode cX9_picked 71 = .ok (.lload 4, 2) := by decide +kernel
theorem dX9_picked_73 : decode cX9_picked 73 = .ok (.lload 7, 2) := by decide +kernel
theorem dX9_picked_75 : decode cX9_picked 75 = .ok (.lor, 1) := by decide +kernel
theorem dX9_picked_76 : decode cX9_picked 76 = .ok (.lstore 4, 2) := by decide +kernel
theorem dX9_picked_78 : decode cX9_picked 78 = .ok (.lload_n 2, 1) := by decide +kernel
theorem dX9_picked_79 : decode cX9_picked 79 = .ok (.lload 7, 2) := by decide +kernel
theorem dX9_picked_81 : decode cX9_picked 81 = .ok (.ldc2_w 97, 3) := by decide +kernel
theorem dX9_picked_84 : decode cX9_picked 84 = .ok (.lxor, 1) := by decide +kernel
theorem dX9_picked_85 : decode cX9_picked 85 = .ok (.land, 1) := by decide +kernel
theorem dX9_picked_86 : decode cX9_picked 86 = .ok (.lstore_n 2, 1) := by decide +kernel
theorem dX9_picked_87 : decode cX9_picked 87 = .ok (.iinc 6 (-1), 3) := by decide +kernel
theorem dX9_picked_90 : decode cX9_picked 90 = .ok (.goto (-58), 3) := by decide +kernel
theorem dX9_picked_93 : decode cX9_picked 93 = .ok (.lload 4, 2) := by decide +kernel
theorem dX9_picked_95 : decode cX9_picked 95 = .ok (.lreturn, 1) := by decide +kernel
theorem dX9_writes_0 : decode cX9_writes 0 = .ok (.aload_n 0, 1) := by decide +kernel
theorem dX9_writes_1 : decode cX9_writes 1 = .ok (.getfield 147, 3) := by decide +kernel
theorem dX9_writes_4 : decode cX9_writes 4 = .ok (.aload_n 0, 1) := by decide +kernel
theorem dX9_writes_5 : decode cX9_writes 5 = .ok (.getfield 13, 3) := by decide +kernel
theorem dX9_writes_8 : decode cX9_writes 8 = .ok (.iload_n 1, 1) := by decide +kernel
theorem dX9_writes_9 : decode cX9_writes 9 = .ok (.iaload, 1) := by decide +kernel
theorem dX9_writes_10 : decode cX9_writes 10 = .ok (.aload_n 0, 1) := by decide +kernel
theorem dX9_writes_11 : decode cX9_writes 11 = .ok (.getfield 16, 3) := by decide +kernel
theorem dX9_writes_14 : decode cX9_writes 14 = .ok (.iload_n 1, 1) := by decide +kernel
theorem dX9_writes_15 : decode cX9_writes 15 = .ok (.iaload, 1) := by decide +kernel
theorem dX9_writes_16 : decode cX9_writes 16 = .ok (.invokestatic 150, 3) := by decide +kernel
theorem dX9_writes_19 : decode cX9_writes 19 = .ok (.irem, 1) := by decide +kernel
theorem dX9_writes_20 : decode cX9_writes 20 = .ok (.ifCond .ne 26, 3) := by decide +kernel
theorem dX9_writes_23 : decode cX9_writes 23 = .ok (.aload_n 0, 1) := by decide +kernel
theorem dX9_writes_24 : decode cX9_writes 24 = .ok (.aload_n 0, 1) := by decide +kernel
theorem dX9_writes_25 : decode cX9_writes 25 = .ok (.getfield 19, 3) := by decide +kernel
theorem dX9_writes_28 : decode cX9_writes 28 = .ok (.iload_n 1, 1) := by decide +kernel
theorem dX9_writes_29 : decode cX9_writes 29 = .ok (.iaload, 1) := by decide +kernel
theorem dX9_writes_30 : decode cX9_writes 30 = .ok (.invokevirtual 153, 3) := by decide +kernel
theorem dX9_writes_33 : decode cX9_writes 33 = .ok (.ifCond .eq 13, 3) := by decide +kernel
theorem dX9_writes_36 : decode cX9_writes 36 = .ok (.aload_n 0, 1) := by decide +kernel
theorem dX9_writes_37 : decode cX9_writes 37 = .ok (.getfield 19, 3) := by decide +kernel
theorem dX9_writes_40 : decode cX9_writes 40 = .ok (.iload_n 1, 1) := by decide +kernel
theorem dX9_writes_41 : decode cX9_writes 41 = .ok (.iaload, 1) := by decide +kernel
theorem dX9_writes_42 : decode cX9_writes 42 = .ok (.iload_n 1, 1) := by decide +kernel
theorem dX9_writes_43 : decode cX9_writes 43 = .ok (.if_icmp .ne 4, 3) := by decide +kernel
theorem dX9_writes_46 : decode cX9_writes 46 = .ok (.return_, 1) := by decide +kernel
theorem dX9_writes_47 : decode cX9_writes 47 = .ok (.aload_n 0, 1) := by decide +kernel
theorem dX9_writes_48 : decode cX9_writes 48 = .ok (.iload_n 1, 1) := by decide +kernel
theorem dX9_writes_49 : decode cX9_writes 49 = .ok (.invokevirtual 156, 3) := by decide +kernel
theorem dX9_writes_52 : decode cX9_writes 52 = .ok (.lstore_n 2, 1) := by decide +kernel
theorem dX9_writes_53 : decode cX9_writes 53 = .ok (.lload_n 2, 1) := by decide +kernel
theorem dX9_writes_54 : decode cX9_writes 54 = .ok (.lconst 0, 1) := by decide +kernel
theorem dX9_writes_55 : decode cX9_writes 55 = .ok (.lcmp, 1) := by decide +kernel
theorem dX9_writes_56 : decode cX9_writes 56 = .ok (.ifCond .eq 12, 3) := by decide +kernel
theorem dX9_writes_59 : decode cX9_writes 59 = .ok (.aload_n 0, 1) := by decide +kernel
theorem dX9_writes_60 : decode cX9_writes 60 = .ok (.getfield 134, 3) := by decide +kernel
theorem dX9_writes_63 : decode cX9_writes 63 = .ok (.bipush 24, 2) := by decide +kernel
theorem dX9_writes_65 : decode cX9_writes 65 = .ok (.if_icmp .ne 4, 3) := by decide +kernel
theorem dX9_writes_68 : decode cX9_writes 68 = .ok (.return_, 1) := by decide +kernel
theorem dX9_writes_69 : decode cX9_writes 69 = .ok (.aload_n 0, 1) := by decide +kernel
theorem dX9_writes_70 : decode cX9_writes 70 = .ok (.getfield 22, 3) := by decide +kernel
theorem dX9_writes_73 : decode cX9_writes 73 = .ok (.aload_n 0, 1) := by decide +kernel
theorem dX9_writes_74 : decode cX9_writes 74 = .ok (.getfield 134, 3) := by decide +kernel
theorem dX9_writes_77 : decode cX9_writes 77 = .ok (.iload_n 1, 1) := by decide +kernel
theorem dX9_writes_78 : decode cX9_writes 78 = .ok (.iastore, 1) := by decide +kernel
theorem dX9_writes_79 : decode cX9_writes 79 = .ok (.aload_n 0, 1) := by decide +kernel
theorem dX9_writes_80 : decode cX9_writes 80 = .ok (.getfield 25, 3) := by decide +kernel
theorem dX9_writes_83 : decode cX9_writes 83 = .ok (.aload_n 0, 1) := by decide +kernel
theorem dX9_writes_84 : decode cX9_writes 84 = .ok (.getfield 134, 3) := by decide +kernel
theorem dX9_writes_87 : decode cX9_writes 87 = .ok (.aload_n 0, 1) := by decide +kernel
theorem dX9_writes_88 : decode cX9_writes 88 = .ok (.getfield 19, 3) := by decide +kernel
theorem dX9_writes_91 : decode cX9_writes 91 = .ok (.iload_n 1, 1) := by decide +kernel
theorem dX9_writes_92 : decode cX9_writes 92 = .ok (.iaload, 1) := by decide +kernel
theorem dX9_writes_93 : decode cX9_writes 93 = .ok (.iastore, 1) := by decide +kernel
theorem dX9_writes_94 : decode cX9_writes 94 = .ok (.aload_n 0, 1) := by decide +kernel
theorem dX9_writes_95 : decode cX9_writes 95 = .ok (.getfield 28, 3) := by decide +kernel
theorem dX9_writes_98 : decode cX9_writes 98 = .ok (.aload_n 0, 1) := by decide +kernel
theorem dX9_writes_99 : decode cX9_writes 99 = .ok (.getfield 134, 3) := by decide +kernel
theorem dX9_writes_102 : decode cX9_writes 102 = .ok (.aload_n 0, 1) := by decide +kernel
theorem dX9_writes_103 : decode cX9_writes 103 = .ok (.getfield 159, 3) := by decide +kernel
theorem dX9_writes_106 : decode cX9_writes 106 = .ok (.iload_n 1, 1) := by decide +kernel
theorem dX9_writes_107 : decode cX9_writes 107 = .ok (.ishr, 1) := by decide +kernel
theorem dX9_writes_108 : decode cX9_writes 108 = .ok (.iconst 1, 1) := by decide +kernel
theorem dX9_writes_109 : decode cX9_writes 109 = .ok (.iand, 1) := by decide +kernel
theorem dX9_writes_110 : decode cX9_writes 110 = .ok (.iconst 1, 1) := by decide +kernel
theorem dX9_writes_111 : decode cX9_writes 111 = .ok (.if_icmp .ne 7, 3) := by decide +kernel
theorem dX9_writes_114 : decode cX9_writes 114 = .ok (.iconst 0, 1) := by decide +kernel
theorem dX9_writes_115 : decode cX9_writes 115 = .ok (.goto 22, 3) := by decide +kernel
theorem dX9_writes_118 : decode cX9_writes 118 = .ok (.aload_n 0, 1) := by decide +kernel
theorem dX9_writes_119 : decode cX9_writes 119 = .ok (.getfield 13, 3) := by decide +kernel
theorem dX9_writes_122 : decode cX9_writes 122 = .ok (.iload_n 1, 1) := by decide +kernel
theorem dX9_writes_123 : decode cX9_writes 123 = .ok (.iaload, 1) := by decide +kernel
theorem dX9_writes_124 : decode cX9_writes 124 = .ok (.aload_n 0, 1) := by decide +kernel
theorem dX9_writes_125 : decode cX9_writes 125 = .ok (.getfield 16, 3) := by decide +kernel
theorem dX9_writes_128 : decode cX9_writes 128 = .ok (.iload_n 1, 1) := by decide +kernel
theorem dX9_writes_129 : decode cX9_writes 129 = .ok (.iaload, 1) := by decide +kernel
theorem dX9_writes_130 : decode cX9_writes 130 = .ok (.aload_n 0, 1) := by decide +kernel
theorem dX9_writes_131 : decode cX9_writes 131 = .ok (.getfield 147, 3) := by decide +kernel
theorem dX9_writes_134 : decode cX9_writes 134 = .ok (.invokestatic 162, 3) := by decide +kernel
theorem dX9_writes_137 : decode cX9_writes 137 = .ok (.iastore, 1) := by decide +kernel
theorem dX9_writes_138 : decode cX9_writes 138 = .ok (.aload_n 0, 1) := by decide +kernel
theorem dX9_writes_139 : decode cX9_writes 139 = .ok (.getfield 31, 3) := by decide +kernel
theorem dX9_writes_142 : decode cX9_writes 142 = .ok (.aload_n 0, 1) := by decide +kernel
theorem dX9_writes_143 : decode cX9_writes 143 = .ok (.getfield 134, 3) := by decide +kernel
theorem dX9_writes_146 : decode cX9_writes 146 = .ok (.aload_n 0, 1) := by decide +kernel
theorem dX9_writes_147 : decode cX9_writes 147 = .ok (.getfield 13, 3) := by decide +kernel
theorem dX9_writes_150 : decode cX9_writes 150 = .ok (.iload_n 1, 1) := by decide +kernel
theorem dX9_writes_151 : decode cX9_writes 151 = .ok (.iaload, 1) := by decide +kernel
theorem dX9_writes_152 : decode cX9_writes 152 = .ok (.aload_n 0, 1) := by decide +kernel
theorem dX9_writes_153 : decode cX9_writes 153 = .ok (.getfield 16, 3) := by decide +kernel
theorem dX9_writes_156 : decode cX9_writes 156 = .ok (.iload_n 1, 1) := by decide +kernel
theorem dX9_writes_157 : decode cX9_writes 157 = .ok (.iaload, 1) := by decide +kernel
theorem dX9_writes_158 : decode cX9_writes 158 = .ok (.invokestatic 166, 3) := by decide +kernel
theorem dX9_writes_161 : decode cX9_writes 161 = .ok (.iastore, 1) := by decide +kernel
theorem dX9_writes_162 : decode cX9_writes 162 = .ok (.aload_n 0, 1) := by decide +kernel
theorem dX9_writes_163 : decode cX9_writes 163 = .ok (.getfield 41, 3) := by decide +kernel
theorem dX9_writes_166 : decode cX9_writes 166 = .ok (.aload_n 0, 1) := by decide +kernel
theorem dX9_writes_167 : decode cX9_writes 167 = .ok (.getfield 134, 3) := by decide +kernel
theorem dX9_writes_170 : decode cX9_writes 170 = .ok (.lload_n 2, 1) := by decide +kernel
theorem dX9_writes_171 : decode cX9_writes 171 = .ok (.lastore, 1) := by decide +kernel
theorem dX9_writes_172 : decode cX9_writes 172 = .ok (.aload_n 0, 1) := by decide +kernel
theorem dX9_writes_173 : decode cX9_writes 173 = .ok (.dup, 1) := by decide +kernel
theorem dX9_writes_174 : decode cX9_writes 174 = .ok (.getfield 134, 3) := by decide +kernel
theorem dX9_writes_177 : decode cX9_writes 177 = .ok (.iconst 1, 1) := by decide +kernel
theorem dX9_writes_178 : decode cX9_writes 178 = .ok (.iadd, 1) := by decide +kernel
theorem dX9_writes_179 : decode cX9_writes 179 = .ok (.putfield 134, 3) := by decide +kernel
theorem dX9_writes_182 : decode cX9_writes 182 = .ok (.aload_n 0, 1) := by decide +kernel
theorem dX9_writes_183 : decode cX9_writes 183 = .ok (.getfield 38, 3) := by decide +kernel
theorem dX9_writes_186 : decode cX9_writes 186 = .ok (.iload_n 1, 1) := by decide +kernel
theorem dX9_writes_187 : decode cX9_writes 187 = .ok (.dup2, 1) := by decide +kernel
theorem dX9_writes_188 : decode cX9_writes 188 = .ok (.laload, 1) := by decide +kernel
theorem dX9_writes_189 : decode cX9_writes 189 = .ok (.lload_n 2, 1) := by decide +kernel
theorem dX9_writes_190 : decode cX9_writes 190 = .ok (.lor, 1) := by decide +kernel
theorem dX9_writes_191 : decode cX9_writes 191 = .ok (.lastore, 1) := by decide +kernel
theorem dX9_writes_192 : decode cX9_writes 192 = .ok (.return_, 1) := by decide +kernel
theorem dX9_goesDay_0 : decode cX9_goesDay 0 = .ok (.aload_n 0, 1) := by decide +kernel
theorem dX9_goesDay_1 : decode cX9_goesDay 1 = .ok (.dup, 1) := by decide +kernel
theorem dX9_goesDay_2 : decode cX9_goesDay 2 = .ok (.getfield 147, 3) := by decide +kernel
theorem dX9_goesDay_5 : decode cX9_goesDay 5 = .ok (.iconst 1, 1) := by decide +kernel
theorem dX9_goesDay_6 : decode cX9_goesDay 6 = .ok (.iadd, 1) := by decide +kernel
theorem dX9_goesDay_7 : decode cX9_goesDay 7 = .ok (.putfield 147, 3) := by decide +kernel
theorem dX9_goesDay_10 : decode cX9_goesDay 10 = .ok (.aload_n 0, 1) := by decide +kernel
theorem dX9_goesDay_11 : decode cX9_goesDay 11 = .ok (.getfield 134, 3) := by decide +kernel
theorem dX9_goesDay_14 : decode cX9_goesDay 14 = .ok (.iconst 3, 1) := by decide +kernel
theorem dX9_goesDay_15 : decode cX9_goesDay 15 = .ok (.if_icmp .ge 10, 3) := by decide +kernel
theorem dX9_goesDay_18 : decode cX9_goesDay 18 = .ok (.aload_n 0, 1) := by decide +kernel
theorem dX9_goesDay_19 : decode cX9_goesDay 19 = .ok (.getfield 134, 3) := by decide +kernel
theorem dX9_goesDay_22 : decode cX9_goesDay 22 = .ok (.goto 4, 3) := by decide +kernel
theorem dX9_goesDay_25 : decode cX9_goesDay 25 = .ok (.iconst 3, 1) := by decide +kernel
theorem dX9_goesDay_26 : decode cX9_goesDay 26 = .ok (.istore_n 1, 1) := by decide +kernel
theorem dX9_goesDay_27 : decode cX9_goesDay 27 = .ok (.iload_n 1, 1) := by decide +kernel
theorem dX9_goesDay_28 : decode cX9_goesDay 28 = .ok (.ifCond .le 19, 3) := by decide +kernel
theorem dX9_goesDay_31 : decode cX9_goesDay 31 = .ok (.aload_n 0, 1) := by decide +kernel
theorem dX9_goesDay_32 : decode cX9_goesDay 32 = .ok (.iconst 0, 1) := by decide +kernel
theorem dX9_goesDay_33 : decode cX9_goesDay 33 = .ok (.invokevirtual 169, 3) := by decide +kernel
theorem dX9_goesDay_36 : decode cX9_goesDay 36 = .ok (.aload_n 0, 1) := by decide +kernel
theorem dX9_goesDay_37 : decode cX9_goesDay 37 = .ok (.iconst 0, 1) := by decide +kernel
theorem dX9_goesDay_38 : decode cX9_goesDay 38 = .ok (.invokevirtual 173, 3) := by decide +kernel
theorem dX9_goesDay_41 : decode cX9_goesDay 41 = .ok (.iinc 1 (-1), 3) := by decide +kernel
theorem dX9_goesDay_44 : decode cX9_goesDay 44 = .ok (.goto (-17), 3) := by decide +kernel
theorem dX9_goesDay_47 : decode cX9_goesDay 47 = .ok (.iconst 0, 1) := by decide +kernel
theorem dX9_goesDay_48 : decode cX9_goesDay 48 = .ok (.istore_n 1, 1) := by decide +kernel
theorem dX9_goesDay_49 : decode cX9_goesDay 49 = .ok (.iload_n 1, 1) := by decide +kernel
theorem dX9_goesDay_50 : decode cX9_goesDay 50 = .ok (.aload_n 0, 1) := by decide +kernel
theorem dX9_goesDay_51 : decode cX9_goesDay 51 = .ok (.getfield 79, 3) := by decide +kernel
theorem dX9_goesDay_54 : decode cX9_goesDay 54 = .ok (.if_icmp .ge 14, 3) := by decide +kernel
theorem dX9_goesDay_57 : decode cX9_goesDay 57 = .ok (.aload_n 0, 1) := by decide +kernel
theorem dX9_goesDay_58 : decode cX9_goesDay 58 = .ok (.iload_n 1, 1) := by decide +kernel
theorem dX9_goesDay_59 : decode cX9_goesDay 59 = .ok (.invokevirtual 176, 3) := by decide +kernel
theorem dX9_goesDay_62 : decode cX9_goesDay 62 = .ok (.iinc 1 1, 3) := by decide +kernel
theorem dX9_goesDay_65 : decode cX9_goesDay 65 = .ok (.goto (-16), 3) := by decide +kernel
theorem dX9_goesDay_68 : decode cX9_goesDay 68 = .ok (.return_, 1) := by decide +kernel
theorem dX9_goes_0 : decode cX9_goes 0 = .ok (.iconst 0, 1) := by decide +kernel
theorem dX9_goes_1 : decode cX9_goes 1 = .ok (.istore_n 2, 1) := by decide +kernel
theorem dX9_goes_2 : decode cX9_goes 2 = .ok (.iload_n 2, 1) := by decide +kernel
theorem dX9_goes_3 : decode cX9_goes 3 = .ok (.iload_n 1, 1) := by decide +kernel
theorem dX9_goes_4 : decode cX9_goes 4 = .ok (.if_icmp .ge 13, 3) := by decide +kernel
theorem dX9_goes_7 : decode cX9_goes 7 = .ok (.aload_n 0, 1) := by decide +kernel
theorem dX9_goes_8 : decode cX9_goes 8 = .ok (.invokevirtual 179, 3) := by decide +kernel
theorem dX9_goes_11 : decode cX9_goes 11 = .ok (.iinc 2 1, 3) := by decide +kernel
theorem dX9_goes_14 : decode cX9_goes 14 = .ok (.goto (-12), 3) := by decide +kernel
theorem dX9_goes_17 : decode cX9_goes 17 = .ok (.return_, 1) := by decide +kernel
theorem dX9_feed_0 : decode cX9_feed 0 = .ok (.iload_n 1, 1) := by decide +kernel
theorem dX9_feed_1 : decode cX9_feed 1 = .ok (.iconst 0, 1) := by decide +kernel
theorem dX9_feed_2 : decode cX9_feed 2 = .ok (.sipush 255, 3) := by decide +kernel
theorem dX9_feed_5 : decode cX9_feed 5 = .ok (.invokestatic 182, 3) := by decide +kernel
theorem dX9_feed_8 : decode cX9_feed 8 = .ok (.istore_n 2, 1) := by decide +kernel
theorem dX9_feed_9 : decode cX9_feed 9 = .ok (.iload_n 2, 1) := by decide +kernel
theorem dX9_feed_10 : decode cX9_feed 10 = .ok (.ifCond .ne 15, 3) := by decide +kernel
theorem dX9_feed_13 : decode cX9_feed 13 = .ok (.aload_n 0, 1) := by decide +kernel
theorem dX9_feed_14 : decode cX9_feed 14 = .ok (.getfield 185, 3) := by decide +kernel
theorem dX9_feed_17 : decode cX9_feed 17 = .ok (.bipush 96, 2) := by decide +kernel
theorem dX9_feed_19 : decode cX9_feed 19 = .ok (.if_icmp .ne 6, 3) := by decide +kernel
theorem dX9_feed_22 : decode cX9_feed 22 = .ok (.bipush (-6), 2) := by decide +kernel
theorem dX9_feed_24 : decode cX9_feed 24 = .ok (.istore_n 2, 1) := by decide +kernel
theorem dX9_feed_25 : decode cX9_feed 25 = .ok (.iload_n 2, 1) := by decide +kernel
theorem dX9_feed_26 : decode cX9_feed 26 = .ok (.ifCond .eq 9, 3) := by decide +kernel
theorem dX9_feed_29 : decode cX9_feed 29 = .ok (.aload_n 0, 1) := by decide +kernel
theorem dX9_feed_30 : decode cX9_feed 30 = .ok (.iload_n 2, 1) := by decide +kernel
theorem dX9_feed_31 : decode cX9_feed 31 = .ok (.invokevirtual 188, 3) := by decide +kernel
theorem dX9_feed_34 : decode cX9_feed 34 = .ok (.ireturn, 1) := by decide +kernel
theorem dX9_feed_35 : decode cX9_feed 35 = .ok (.aload_n 0, 1) := by decide +kernel
theorem dX9_feed_36 : decode cX9_feed 36 = .ok (.getfield 44, 3) := by decide +kernel
theorem dX9_feed_39 : decode cX9_feed 39 = .ok (.aload_n 0, 1) := by decide +kernel
theorem dX9_feed_40 : decode cX9_feed 40 = .ok (.getfield 185, 3) := by decide +kernel
theorem dX9_feed_43 : decode cX9_feed 43 = .ok (.iload_n 1, 1) := by decide +kernel
theorem dX9_feed_44 : decode cX9_feed 44 = .ok (.iastore, 1) := by decide +kernel
theorem dX9_feed_45 : decode cX9_feed 45 = .ok (.aload_n 0, 1) := by decide +kernel
theorem dX9_feed_46 : decode cX9_feed 46 = .ok (.dup, 1) := by decide +kernel
theorem dX9_feed_47 : decode cX9_feed 47 = .ok (.getfield 185, 3) := by decide +kernel
theorem dX9_feed_50 : decode cX9_feed 50 = .ok (.iconst 1, 1) := by decide +kernel
theorem dX9_feed_51 : decode cX9_feed 51 = .ok (.iadd, 1) := by decide +kernel
theorem dX9_feed_52 : decode cX9_feed 52 = .ok (.putfield 185, 3) := by decide +kernel
theorem dX9_feed_55 : decode cX9_feed 55 = .ok (.aload_n 0, 1) := by decide +kernel
theorem dX9_feed_56 : decode cX9_feed 56 = .ok (.getfield 185, 3) := by decide +kernel
theorem dX9_feed_59 : decode cX9_feed 59 = .ok (.ireturn, 1) := by decide +kernel
theorem dX9_sign_0 : decode cX9_sign 0 = .ok (.aload_n 0, 1) := by decide +kernel
theorem dX9_sign_1 : decode cX9_sign 1 = .ok (.getfield 191, 3) := by decide +kernel
theorem dX9_sign_4 : decode cX9_sign 4 = .ok (.aload_n 0, 1) := by decide +kernel
theorem dX9_sign_5 : decode cX9_sign 5 = .ok (.getfield 185, 3) := by decide +kernel
theorem dX9_sign_8 : decode cX9_sign 8 = .ok (.if_icmp .ge 15, 3) := by decide +kernel
theorem dX9_sign_11 : decode cX9_sign 11 = .ok (.aload_n 0, 1) := by decide +kernel
theorem dX9_sign_12 : decode cX9_sign 12 = .ok (.getfield 44, 3) := by decide +kernel
theorem dX9_sign_15 : decode cX9_sign 15 = .ok (.aload_n 0, 1) := by decide +kernel
theorem dX9_sign_16 : decode cX9_sign 16 = .ok (.getfield 191, 3) := by decide +kernel
theorem dX9_sign_19 : decode cX9_sign 19 = .ok (.iaload, 1) := by decide +kernel
theorem dX9_sign_20 : decode cX9_sign 20 = .ok (.goto 4, 3) := by decide +kernel
theorem dX9_sign_23 : decode cX9_sign 23 = .ok (.iconst (-1), 1) := by decide +kernel
theorem dX9_sign_24 : decode cX9_sign 24 = .ok (.ireturn, 1) := by decide +kernel
theorem dX9_readsDigits_0 : decode cX9_readsDigits 0 = .ok (.iconst 0, 1) := by decide +kernel
theorem dX9_readsDigits_1 : decode cX9_readsDigits 1 = .ok (.istore_n 2, 1) := by decide +kernel
theorem dX9_readsDigits_2 : decode cX9_readsDigits 2 = .ok (.iconst 0, 1) := by decide +kernel
theorem dX9_readsDigits_3 : decode cX9_readsDigits 3 = .ok (.istore_n 3, 1) := by decide +kernel
theorem dX9_readsDigits_4 : decode cX9_readsDigits 4 = .ok (.iload_n 3, 1) := by decide +kernel
theorem dX9_readsDigits_5 : decode cX9_readsDigits 5 = .ok (.iload_n 1, 1) := by decide +kernel
theorem dX9_readsDigits_6 : decode cX9_readsDigits 6 = .ok (.if_icmp .ge 48, 3) := by decide +kernel
theorem dX9_readsDigits_9 : decode cX9_readsDigits 9 = .ok (.aload_n 0, 1) := by decide +kernel
theorem dX9_readsDigits_10 : decode cX9_readsDigits 10 = .ok (.invokevirtual 194, 3) := by decide +kernel
theorem dX9_readsDigits_13 : decode cX9_readsDigits 13 = .ok (.bipush 48, 2) := by decide +kernel
theorem dX9_readsDigits_15 : decode cX9_readsDigits 15 = .ok (.bipush 57, 2) := by decide +kernel
theorem dX9_readsDigits_17 : decode cX9_readsDigits 17 = .ok (.invokestatic 82, 3) := by decide +kernel
theorem dX9_readsDigits_20 : decode cX9_readsDigits 20 = .ok (.ifCond .ne 5, 3) := by decide +kernel
theorem dX9_readsDigits_23 : decode cX9_readsDigits 23 = .ok (.iconst 0, 1) := by decide +kernel
theorem dX9_readsDigits_24 : decode cX9_readsDigits 24 = .ok (.ireturn, 1) := by decide +kernel
theorem dX9_readsDigits_25 : decode cX9_readsDigits 25 = .ok (.bipush 10, 2) := by decide +kernel
theorem dX9_readsDigits_27 : decode cX9_readsDigits 27 = .ok (.iload_n 2, 1) := by decide +kernel
theorem dX9_readsDigits_28 : decode cX9_readsDigits 28 = .ok (.imul, 1) := by decide +kernel
theorem dX9_readsDigits_29 : decode cX9_readsDigits 29 = .ok (.aload_n 0, 1) := by decide +kernel
theorem dX9_readsDigits_30 : decode cX9_readsDigits 30 = .ok (.invokevirtual 194, 3) := by decide +kernel
theorem dX9_readsDigits_33 : decode cX9_readsDigits 33 = .ok (.iadd, 1) := by decide +kernel
theorem dX9_readsDigits_34 : decode cX9_readsDigits 34 = .ok (.bipush 48, 2) := by decide +kernel
theorem dX9_readsDigits_36 : decode cX9_readsDigits 36 = .ok (.isub, 1) := by decide +kernel
theorem dX9_readsDigits_37 : decode cX9_readsDigits 37 = .ok (.istore_n 2, 1) := by decide +kernel
theorem dX9_readsDigits_38 : decode cX9_readsDigits 38 = .ok (.aload_n 0, 1) := by decide +kernel
theorem dX9_readsDigits_39 : decode cX9_readsDigits 39 = .ok (.dup, 1) := by decide +kernel
theorem dX9_readsDigits_40 : decode cX9_readsDigits 40 = .ok (.getfield 191, 3) := by decide +kernel
theorem dX9_readsDigits_43 : decode cX9_readsDigits 43 = .ok (.iconst 1, 1) := by decide +kernel
theorem dX9_readsDigits_44 : decode cX9_readsDigits 44 = .ok (.iadd, 1) := by decide +kernel
theorem dX9_readsDigits_45 : decode cX9_readsDigits 45 = .ok (.putfield 191, 3) := by decide +kernel
theorem dX9_readsDigits_48 : decode cX9_readsDigits 48 = .ok (.iinc 3 1, 3) := by decide +kernel
theorem dX9_readsDigits_51 : decode cX9_readsDigits 51 = .ok (.goto (-47), 3) := by decide +kernel
theorem dX9_readsDigits_54 : decode cX9_readsDigits 54 = .ok (.aload_n 0, 1) := by decide +kernel
theorem dX9_readsDigits_55 : decode cX9_readsDigits 55 = .ok (.getfield 53, 3) := by decide +kernel
theorem dX9_readsDigits_58 : decode cX9_readsDigits 58 = .ok (.aload_n 0, 1) := by decide +kernel
theorem dX9_readsDigits_59 : decode cX9_readsDigits 59 = .ok (.getfield 198, 3) := by decide +kernel
theorem dX9_readsDigits_62 : decode cX9_readsDigits 62 = .ok (.iload_n 2, 1) := by decide +kernel
theorem dX9_readsDigits_63 : decode cX9_readsDigits 63 = .ok (.iastore, 1) := by decide +kernel
theorem dX9_readsDigits_64 : decode cX9_readsDigits 64 = .ok (.aload_n 0, 1) := by decide +kernel
theorem dX9_readsDigits_65 : decode cX9_readsDigits 65 = .ok (.dup, 1) := by decide +kernel
theorem dX9_readsDigits_66 : decode cX9_readsDigits 66 = .ok (.getfield 198, 3) := by decide +kernel
theorem dX9_readsDigits_69 : decode cX9_readsDigits 69 = .ok (.iconst 1, 1) := by decide +kernel
theorem dX9_readsDigits_70 : decode cX9_readsDigits 70 = .ok (.iadd, 1) := by decide +kernel
theorem dX9_readsDigits_71 : decode cX9_readsDigits 71 = .ok (.putfield 198, 3) := by decide +kernel
theorem dX9_readsDigits_74 : decode cX9_readsDigits 74 = .ok (.iconst 1, 1) := by decide +kernel
theorem dX9_readsDigits_75 : decode cX9_readsDigits 75 = .ok (.ireturn, 1) := by decide +kernel
theorem dX9_readsAll_0 : decode cX9_readsAll 0 = .ok (.iload_n 1, 1) := by decide +kernel
theorem dX9_readsAll_1 : decode cX9_readsAll 1 = .ok (.lookupswitch 79 #[(102, 35), (107, 57), (112, 35)], 35) := by decide +kernel
theorem dX9_readsAll_36 : decode cX9_readsAll 36 = .ok (.aload_n 0, 1) := by decide +kernel
theorem dX9_readsAll_37 : decode cX9_readsAll 37 = .ok (.iconst 1, 1) := by decide +kernel
theorem dX9_readsAll_38 : decode cX9_readsAll 38 = .ok (.invokevirtual 201, 3) := by decide +kernel
theorem dX9_readsAll_41 : decode cX9_readsAll 41 = .ok (.ifCond .eq 15, 3) := by decide +kernel
theorem dX9_readsAll_44 : decode cX9_readsAll 44 = .ok (.aload_n 0, 1) := by decide +kernel
theorem dX9_readsAll_45 : decode cX9_readsAll 45 = .ok (.iconst 1, 1) := by decide +kernel
theorem dX9_readsAll_46 : decode cX9_readsAll 46 = .ok (.invokevirtual 201, 3) := by decide +kernel
theorem dX9_readsAll_49 : decode cX9_readsAll 49 = .ok (.ifCond .eq 7, 3) := by decide +kernel
theorem dX9_readsAll_52 : decode cX9_readsAll 52 = .ok (.iconst 1, 1) := by decide +kernel
theorem dX9_readsAll_53 : decode cX9_readsAll 53 = .ok (.goto 4, 3) := by decide +kernel
theorem dX9_readsAll_56 : decode cX9_readsAll 56 = .ok (.iconst 0, 1) := by decide +kernel
theorem dX9_readsAll_57 : decode cX9_readsAll 57 = .ok (.ireturn, 1) := by decide +kernel
theorem dX9_readsAll_58 : decode cX9_readsAll 58 = .ok (.aload_n 0, 1) := by decide +kernel
theorem dX9_readsAll_59 : decode cX9_readsAll 59 = .ok (.iconst 1, 1) := by decide +kernel
theorem dX9_readsAll_60 : decode cX9_readsAll 60 = .ok (.invokevirtual 201, 3) := by decide +kernel
theorem dX9_readsAll_63 : decode cX9_readsAll 63 = .ok (.ifCond .eq 15, 3) := by decide +kernel
theorem dX9_readsAll_66 : decode cX9_readsAll 66 = .ok (.aload_n 0, 1) := by decide +kernel
theorem dX9_readsAll_67 : decode cX9_readsAll 67 = .ok (.iconst 2, 1) := by decide +kernel
theorem dX9_readsAll_68 : decode cX9_readsAll 68 = .ok (.invokevirtual 201, 3) := by decide +kernel
theorem dX9_readsAll_71 : decode cX9_readsAll 71 = .ok (.ifCond .eq 7, 3) := by decide +kernel
theorem dX9_readsAll_74 : decode cX9_readsAll 74 = .ok (.iconst 1, 1) := by decide +kernel
theorem dX9_readsAll_75 : decode cX9_readsAll 75 = .ok (.goto 4, 3) := by decide +kernel
theorem dX9_readsAll_78 : decode cX9_readsAll 78 = .ok (.iconst 0, 1) := by decide +kernel
theorem dX9_readsAll_79 : decode cX9_readsAll 79 = .ok (.ireturn, 1) := by decide +kernel
theorem dX9_readsAll_80 : decode cX9_readsAll 80 = .ok (.aload_n 0, 1) := by decide +kernel
theorem dX9_readsAll_81 : decode cX9_readsAll 81 = .ok (.iconst 2, 1) := by decide +kernel
theorem dX9_readsAll_82 : decode cX9_readsAll 82 = .ok (.invokevirtual 201, 3) := by decide +kernel
theorem dX9_readsAll_85 : decode cX9_readsAll 85 = .ok (.ireturn, 1) := by decide +kernel
theorem dX9_statement_0 : decode cX9_statement 0 = .ok (.aload_n 0, 1) := by decide +kernel
theorem dX9_statement_1 : decode cX9_statement 1 = .ok (.invokevirtual 194, 3) := by decide +kernel
theorem dX9_statement_4 : decode cX9_statement 4 = .ok (.istore_n 1, 1) := by decide +kernel
theorem dX9_statement_5 : decode cX9_statement 5 = .ok (.iload_n 1, 1) := by decide +kernel
theorem dX9_statement_6 : decode cX9_statement 6 = .ok (.bipush 112, 2) := by decide +kernel
theorem dX9_statement_8 : decode cX9_statement 8 = .ok (.if_icmp .eq 41, 3) := by decide +kernel
theorem dX9_statement_11 : decode cX9_statement 11 = .ok (.iload_n 1, 1) := by decide +kernel
theorem dX9_statement_12 : decode cX9_statement 12 = .ok (.bipush 102, 2) := by decide +kernel
theorem dX9_statement_14 : decode cX9_statement 14 = .ok (.if_icmp .eq 35, 3) := by decide +kernel
theorem dX9_statement_17 : decode cX9_statement 17 = .ok (.iload_n 1, 1) := by decide +kernel
theorem dX9_statement_18 : decode cX9_statement 18 = .ok (.bipush 107, 2) := by decide +kernel
theorem dX9_statement_20 : decode cX9_statement 20 = .ok (.if_icmp .eq 29, 3) := by decide +kernel
theorem dX9_statement_23 : decode cX9_statement 23 = .ok (.iload_n 1, 1) := by decide +kernel
theorem dX9_statement_24 : decode cX9_statement 24 = .ok (.bipush 115, 2) := by decide +kernel
theorem dX9_statement_26 : decode cX9_statement 26 = .ok (.if_icmp .eq 23, 3) := by decide +kernel
theorem dX9_statement_29 : decode cX9_statement 29 = .ok (.iload_n 1, 1) := by decide +kernel
theorem dX9_statement_30 : decode cX9_statement 30 = .ok (.bipush 120, 2) := by decide +kernel
theorem dX9_statement_32 : decode cX9_statement 32 = .ok (.if_icmp .eq 17, 3) := by decide +kernel
theorem dX9_statement_35 : decode cX9_statement 35 = .ok (.iload_n 1, 1) := by decide +kernel
theorem dX9_statement_36 : decode cX9_statement 36 = .ok (.bipush 114, 2) := by decide +kernel
theorem dX9_statement_38 : decode cX9_statement 38 = .ok (.if_icmp .eq 11, 3) := by decide +kernel
theorem dX9_statement_41 : decode cX9_statement 41 = .ok (.iload_n 1, 1) := by decide +kernel
theorem dX9_statement_42 : decode cX9_statement 42 = .ok (.bipush 100, 2) := by decide +kernel
theorem dX9_statement_44 : decode cX9_statement 44 = .ok (.if_icmp .eq 5, 3) := by decide +kernel
theorem dX9_statement_47 : decode cX9_statement 47 = .ok (.iconst 0, 1) := by decide +kernel
theorem dX9_statement_48 : decode cX9_statement 48 = .ok (.ireturn, 1) := by decide +kernel
theorem dX9_statement_49 : decode cX9_statement 49 = .ok (.aload_n 0, 1) := by decide +kernel
theorem dX9_statement_50 : decode cX9_statement 50 = .ok (.getfield 47, 3) := by decide +kernel
theorem dX9_statement_53 : decode cX9_statement 53 = .ok (.aload_n 0, 1) := by decide +kernel
theorem dX9_statement_54 : decode cX9_statement 54 = .ok (.getfield 204, 3) := by decide +kernel
theorem dX9_statement_57 : decode cX9_statement 57 = .ok (.iload_n 1, 1) := by decide +kernel
theorem dX9_statement_58 : decode cX9_statement 58 = .ok (.iastore, 1) := by decide +kernel
theorem dX9_statement_59 : decode cX9_statement 59 = .ok (.aload_n 0, 1) := by decide +kernel
theorem dX9_statement_60 : decode cX9_statement 60 = .ok (.getfield 50, 3) := by decide +kernel
theorem dX9_statement_63 : decode cX9_statement 63 = .ok (.aload_n 0, 1) := by decide +kernel
theorem dX9_statement_64 : decode cX9_statement 64 = .ok (.getfield 204, 3) := by decide +kernel
theorem dX9_statement_67 : decode cX9_statement 67 = .ok (.aload_n 0, 1) := by decide +kernel
theorem dX9_statement_68 : decode cX9_statement 68 = .ok (.getfield 191, 3) := by decide +kernel
theorem dX9_statement_71 : decode cX9_statement 71 = .ok (.iastore, 1) := by decide +kernel
theorem dX9_statement_72 : decode cX9_statement 72 = .ok (.aload_n 0, 1) := by decide +kernel
theorem dX9_statement_73 : decode cX9_statement 73 = .ok (.iconst 2, 1) := by decide +kernel
theorem dX9_statement_74 : decode cX9_statement 74 = .ok (.aload_n 0, 1) := by decide +kernel
theorem dX9_statement_75 : decode cX9_statement 75 = .ok (.getfield 204, 3) := by decide +kernel
theorem dX9_statement_78 : decode cX9_statement 78 = .ok (.imul, 1) := by decide +kernel
theorem dX9_statement_79 : decode cX9_statement 79 = .ok (.putfield 198, 3) := by decide +kernel
theorem dX9_statement_82 : decode cX9_statement 82 = .ok (.aload_n 0, 1) := by decide +kernel
theorem dX9_statement_83 : decode cX9_statement 83 = .ok (.dup, 1) := by decide +kernel
theorem dX9_statement_84 : decode cX9_statement 84 = .ok (.getfield 191, 3) := by decide +kernel
theorem dX9_statement_87 : decode cX9_statement 87 = .ok (.iconst 1, 1) := by decide +kernel
theorem dX9_statement_88 : decode cX9_statement 88 = .ok (.iadd, 1) := by decide +kernel
theorem dX9_statement_89 : decode cX9_statement 89 = .ok (.putfield 191, 3) := by decide +kernel
theorem dX9_statement_92 : decode cX9_statement 92 = .ok (.aload_n 0, 1) := by decide +kernel
theorem dX9_statement_93 : decode cX9_statement 93 = .ok (.iload_n 1, 1) := by decide +kernel
theorem dX9_statement_94 : decode cX9_statement 94 = .ok (.invokevirtual 207, 3) := by decide +kernel
theorem dX9_statement_97 : decode cX9_statement 97 = .ok (.ifCond .eq 12, 3) := by decide +kernel
theorem dX9_statement_100 : decode cX9_statement 100 = .ok (.aload_n 0, 1) := by decide +kernel
theorem dX9_statement_101 : decode cX9_statement 101 = .ok (.invokevirtual 194, 3) := by decide +kernel
theorem dX9_statement_104 : decode cX9_statement 104 = .ok (.bipush 59, 2) := by decide +kernel
theorem dX9_statement_106 : decode cX9_statement 106 = .ok (.if_icmp .eq 5, 3) := by decide +kernel
theorem dX9_statement_109 : decode cX9_statement 109 = .ok (.iconst 0, 1) := by decide +kernel
theorem dX9_statement_110 : decode cX9_statement 110 = .ok (.ireturn, 1) := by decide +kernel
theorem dX9_statement_111 : decode cX9_statement 111 = .ok (.aload_n 0, 1) := by decide +kernel
theorem dX9_statement_112 : decode cX9_statement 112 = .ok (.dup, 1) := by decide +kernel
theorem dX9_statement_113 : decode cX9_statement 113 = .ok (.getfield 191, 3) := by decide +kernel
theorem dX9_statement_116 : decode cX9_statement 116 = .ok (.iconst 1, 1) := by decide +kernel
theorem dX9_statement_117 : decode cX9_statement 117 = .ok (.iadd, 1) := by decide +kernel
theorem dX9_statement_118 : decode cX9_statement 118 = .ok (.putfield 191, 3) := by decide +kernel
theorem dX9_statement_121 : decode cX9_statement 121 = .ok (.iconst 1, 1) := by decide +kernel
theorem dX9_statement_122 : decode cX9_statement 122 = .ok (.ireturn, 1) := by decide +kernel
theorem dX9_isMore_0 : decode cX9_isMore 0 = .ok (.aload_n 0, 1) := by decide +kernel
theorem dX9_isMore_1 : decode cX9_isMore 1 = .ok (.getfield 13, 3) := by decide +kernel
theorem dX9_isMore_4 : decode cX9_isMore 4 = .ok (.aload_n 0, 1) := by decide +kernel
theorem dX9_isMore_5 : decode cX9_isMore 5 = .ok (.getfield 79, 3) := by decide +kernel
theorem dX9_isMore_8 : decode cX9_isMore 8 = .ok (.iload_n 1, 1) := by decide +kernel
theorem dX9_isMore_9 : decode cX9_isMore 9 = .ok (.iastore, 1) := by decide +kernel
theorem dX9_isMore_10 : decode cX9_isMore 10 = .ok (.aload_n 0, 1) := by decide +kernel
theorem dX9_isMore_11 : decode cX9_isMore 11 = .ok (.getfield 16, 3) := by decide +kernel
theorem dX9_isMore_14 : decode cX9_isMore 14 = .ok (.aload_n 0, 1) := by decide +kernel
theorem dX9_isMore_15 : decode cX9_isMore 15 = .ok (.getfield 79, 3) := by decide +kernel
theorem dX9_isMore_18 : decode cX9_isMore 18 = .ok (.iload_n 2, 1) := by decide +kernel
theorem dX9_isMore_19 : decode cX9_isMore 19 = .ok (.iastore, 1) := by decide +kernel
theorem dX9_isMore_20 : decode cX9_isMore 20 = .ok (.aload_n 0, 1) := by decide +kernel
theorem dX9_isMore_21 : decode cX9_isMore 21 = .ok (.getfield 19, 3) := by decide +kernel
theorem dX9_isMore_24 : decode cX9_isMore 24 = .ok (.aload_n 0, 1) := by decide +kernel
theorem dX9_isMore_25 : decode cX9_isMore 25 = .ok (.getfield 79, 3) := by decide +kernel
theorem dX9_isMore_28 : decode cX9_isMore 28 = .ok (.aload_n 0, 1) := by decide +kernel
theorem dX9_isMore_29 : decode cX9_isMore 29 = .ok (.getfield 79, 3) := by decide +kernel
theorem dX9_isMore_32 : decode cX9_isMore 32 = .ok (.iconst 5, 1) := by decide +kernel
theorem dX9_isMore_33 : decode cX9_isMore 33 = .ok (.if_icmp .ne 7, 3) := by decide +kernel
theorem dX9_isMore_36 : decode cX9_isMore 36 = .ok (.iconst 0, 1) := by decide +kernel
theorem dX9_isMore_37 : decode cX9_isMore 37 = .ok (.goto 9, 3) := by decide +kernel
theorem dX9_isMore_40 : decode cX9_isMore 40 = .ok (.aload_n 0, 1) := by decide +kernel
theorem dX9_isMore_41 : decode cX9_isMore 41 = .ok (.getfield 79, 3) := by decide +kernel
theorem dX9_isMore_44 : decode cX9_isMore 44 = .ok (.iconst 1, 1) := by decide +kernel
theorem dX9_isMore_45 : decode cX9_isMore 45 = .ok (.iadd, 1) := by decide +kernel
theorem dX9_isMore_46 : decode cX9_isMore 46 = .ok (.iastore, 1) := by decide +kernel
theorem dX9_isMore_47 : decode cX9_isMore 47 = .ok (.aload_n 0, 1) := by decide +kernel
theorem dX9_isMore_48 : decode cX9_isMore 48 = .ok (.getfield 34, 3) := by decide +kernel
theorem dX9_isMore_51 : decode cX9_isMore 51 = .ok (.aload_n 0, 1) := by decide +kernel
theorem dX9_isMore_52 : decode cX9_isMore 52 = .ok (.getfield 79, 3) := by decide +kernel
theorem dX9_isMore_55 : decode cX9_isMore 55 = .ok (.lconst 0, 1) := by decide +kernel
theorem dX9_isMore_56 : decode cX9_isMore 56 = .ok (.lastore, 1) := by decide +kernel
theorem dX9_isMore_57 : decode cX9_isMore 57 = .ok (.aload_n 0, 1) := by decide +kernel
theorem dX9_isMore_58 : decode cX9_isMore 58 = .ok (.getfield 38, 3) := by decide +kernel
theorem dX9_isMore_61 : decode cX9_isMore 61 = .ok (.aload_n 0, 1) := by decide +kernel
theorem dX9_isMore_62 : decode cX9_isMore 62 = .ok (.getfield 79, 3) := by decide +kernel
theorem dX9_isMore_65 : decode cX9_isMore 65 = .ok (.lconst 0, 1) := by decide +kernel
theorem dX9_isMore_66 : decode cX9_isMore 66 = .ok (.lastore, 1) := by decide +kernel
theorem dX9_isMore_67 : decode cX9_isMore 67 = .ok (.aload_n 0, 1) := by decide +kernel
theorem dX9_isMore_68 : decode cX9_isMore 68 = .ok (.dup, 1) := by decide +kernel
theorem dX9_isMore_69 : decode cX9_isMore 69 = .ok (.getfield 79, 3) := by decide +kernel
theorem dX9_isMore_72 : decode cX9_isMore 72 = .ok (.iconst 1, 1) := by decide +kernel
theorem dX9_isMore_73 : decode cX9_isMore 73 = .ok (.iadd, 1) := by decide +kernel
theorem dX9_isMore_74 : decode cX9_isMore 74 = .ok (.putfield 79, 3) := by decide +kernel
theorem dX9_isMore_77 : decode cX9_isMore 77 = .ok (.return_, 1) := by decide +kernel
theorem dX9_comesPerson_0 : decode cX9_comesPerson 0 = .ok (.iload_n 1, 1) := by decide +kernel
theorem dX9_comesPerson_1 : decode cX9_comesPerson 1 = .ok (.bipush 8, 2) := by decide +kernel
theorem dX9_comesPerson_3 : decode cX9_comesPerson 3 = .ok (.if_icmp .ge 12, 3) := by decide +kernel
theorem dX9_comesPerson_6 : decode cX9_comesPerson 6 = .ok (.aload_n 0, 1) := by decide +kernel
theorem dX9_comesPerson_7 : decode cX9_comesPerson 7 = .ok (.getfield 79, 3) := by decide +kernel
theorem dX9_comesPerson_10 : decode cX9_comesPerson 10 = .ok (.bipush 6, 2) := by decide +kernel
theorem dX9_comesPerson_12 : decode cX9_comesPerson 12 = .ok (.if_icmp .ne 5, 3) := by decide +kernel
theorem dX9_comesPerson_15 : decode cX9_comesPerson 15 = .ok (.iconst 0, 1) := by decide +kernel
theorem dX9_comesPerson_16 : decode cX9_comesPerson 16 = .ok (.ireturn, 1) := by decide +kernel
theorem dX9_comesPerson_17 : decode cX9_comesPerson 17 = .ok (.aload_n 0, 1) := by decide +kernel
theorem dX9_comesPerson_18 : decode cX9_comesPerson 18 = .ok (.iload_n 1, 1) := by decide +kernel
theorem dX9_comesPerson_19 : decode cX9_comesPerson 19 = .ok (.iload_n 2, 1) := by decide +kernel
theorem dX9_comesPerson_20 : decode cX9_comesPerson 20 = .ok (.invokevirtual 210, 3) := by decide +kernel
theorem dX9_comesPerson_23 : decode cX9_comesPerson 23 = .ok (.iconst 1, 1) := by decide +kernel
theorem dX9_comesPerson_24 : decode cX9_comesPerson 24 = .ok (.ireturn, 1) := by decide +kernel
theorem dX9_comesFriend_0 : decode cX9_comesFriend 0 = .ok (.aload_n 0, 1) := by decide +kernel
theorem dX9_comesFriend_1 : decode cX9_comesFriend 1 = .ok (.iload_n 1, 1) := by decide +kernel
theorem dX9_comesFriend_2 : decode cX9_comesFriend 2 = .ok (.invokevirtual 153, 3) := by decide +kernel
theorem dX9_comesFriend_5 : decode cX9_comesFriend 5 = .ok (.ifCond .eq 8, 3) := by decide +kernel
theorem dX9_comesFriend_8 : decode cX9_comesFriend 8 = .ok (.iload_n 2, 1) := by decide +kernel
theorem dX9_comesFriend_9 : decode cX9_comesFriend 9 = .ok (.iconst 5, 1) := by decide +kernel
theorem dX9_comesFriend_10 : decode cX9_comesFriend 10 = .ok (.if_icmp .le 5, 3) := by decide +kernel
theorem dX9_comesFriend_13 : decode cX9_comesFriend 13 = .ok (.iconst 0, 1) := by decide +kernel
theorem dX9_comesFriend_14 : decode cX9_comesFriend 14 = .ok (.ireturn, 1) := by decide +kernel
theorem dX9_comesFriend_15 : decode cX9_comesFriend 15 = .ok (.aload_n 0, 1) := by decide +kernel
theorem dX9_comesFriend_16 : decode cX9_comesFriend 16 = .ok (.getfield 19, 3) := by decide +kernel
theorem dX9_comesFriend_19 : decode cX9_comesFriend 19 = .ok (.iload_n 1, 1) := by decide +kernel
theorem dX9_comesFriend_20 : decode cX9_comesFriend 20 = .ok (.iload_n 2, 1) := by decide +kernel
theorem dX9_comesFriend_21 : decode cX9_comesFriend 21 = .ok (.iastore, 1) := by decide +kernel
theorem dX9_comesFriend_22 : decode cX9_comesFriend 22 = .ok (.iconst 1, 1) := by decide +kernel
theorem dX9_comesFriend_23 : decode cX9_comesFriend 23 = .ok (.ireturn, 1) := by decide +kernel
theorem dX9_comesKnowing_0 : decode cX9_comesKnowing 0 = .ok (.aload_n 0, 1) := by decide +kernel
theorem dX9_comesKnowing_1 : decode cX9_comesKnowing 1 = .ok (.iload_n 1, 1) := by decide +kernel
theorem dX9_comesKnowing_2 : decode cX9_comesKnowing 2 = .ok (.invokevirtual 214, 3) := by decide +kernel
theorem dX9_comesKnowing_5 : decode cX9_comesKnowing 5 = .ok (.ifCond .eq 9, 3) := by decide +kernel
theorem dX9_comesKnowing_8 : decode cX9_comesKnowing 8 = .ok (.iload_n 2, 1) := by decide +kernel
theorem dX9_comesKnowing_9 : decode cX9_comesKnowing 9 = .ok (.bipush 40, 2) := by decide +kernel
theorem dX9_comesKnowing_11 : decode cX9_comesKnowing 11 = .ok (.if_icmp .lt 5, 3) := by decide +kernel
theorem dX9_comesKnowing_14 : decode cX9_comesKnowing 14 = .ok (.iconst 0, 1) := by decide +kernel
theorem dX9_comesKnowing_15 : decode cX9_comesKnowing 15 = .ok (.ireturn, 1) := by decide +kernel
theorem dX9_comesKnowing_16 : decode cX9_comesKnowing 16 = .ok (.iload_n 1, 1) := by decide +kernel
theorem dX9_comesKnowing_17 : decode cX9_comesKnowing 17 = .ok (.ifCond .ge 18, 3) := by decide +kernel
theorem dX9_comesKnowing_20 : decode cX9_comesKnowing 20 = .ok (.aload_n 0, 1) := by decide +kernel
theorem dX9_comesKnowing_21 : decode cX9_comesKnowing 21 = .ok (.dup, 1) := by decide +kernel
theorem dX9_comesKnowing_22 : decode cX9_comesKnowing 22 = .ok (.getfield 86, 3) := by decide +kernel
theorem dX9_comesKnowing_25 : decode cX9_comesKnowing 25 = .ok (.lconst 1, 1) := by decide +kernel
theorem dX9_comesKnowing_26 : decode cX9_comesKnowing 26 = .ok (.iload_n 2, 1) := by decide +kernel
theorem dX9_comesKnowing_27 : decode cX9_comesKnowing 27 = .ok (.lshl, 1) := by decide +kernel
theorem dX9_comesKnowing_28 : decode cX9_comesKnowing 28 = .ok (.lor, 1) := by decide +kernel
theorem dX9_comesKnowing_29 : decode cX9_comesKnowing 29 = .ok (.putfield 86, 3) := by decide +kernel
theorem dX9_comesKnowing_32 : decode cX9_comesKnowing 32 = .ok (.goto 15, 3) := by decide +kernel
theorem dX9_comesKnowing_35 : decode cX9_comesKnowing 35 = .ok (.aload_n 0, 1) := by decide +kernel
theorem dX9_comesKnowing_36 : decode cX9_comesKnowing 36 = .ok (.getfield 34, 3) := by decide +kernel
theorem dX9_comesKnowing_39 : decode cX9_comesKnowing 39 = .ok (.iload_n 1, 1) := by decide +kernel
theorem dX9_comesKnowing_40 : decode cX9_comesKnowing 40 = .ok (.dup2, 1) := by decide +kernel
theorem dX9_comesKnowing_41 : decode cX9_comesKnowing 41 = .ok (.laload, 1) := by decide +kernel
theorem dX9_comesKnowing_42 : decode cX9_comesKnowing 42 = .ok (.lconst 1, 1) := by decide +kernel
theorem dX9_comesKnowing_43 : decode cX9_comesKnowing 43 = .ok (.iload_n 2, 1) := by decide +kernel
theorem dX9_comesKnowing_44 : decode cX9_comesKnowing 44 = .ok (.lshl, 1) := by decide +kernel
theorem dX9_comesKnowing_45 : decode cX9_comesKnowing 45 = .ok (.lor, 1) := by decide +kernel
theorem dX9_comesKnowing_46 : decode cX9_comesKnowing 46 = .ok (.lastore, 1) := by decide +kernel
theorem dX9_comesKnowing_47 : decode cX9_comesKnowing 47 = .ok (.iconst 1, 1) := by decide +kernel
theorem dX9_comesKnowing_48 : decode cX9_comesKnowing 48 = .ok (.ireturn, 1) := by decide +kernel
theorem dX9_comesForbidding_0 : decode cX9_comesForbidding 0 = .ok (.iload_n 1, 1) := by decide +kernel
theorem dX9_comesForbidding_1 : decode cX9_comesForbidding 1 = .ok (.bipush 40, 2) := by decide +kernel
theorem dX9_comesForbidding_3 : decode cX9_comesForbidding 3 = .ok (.if_icmp .lt 5, 3) := by decide +kernel
theorem dX9_comesForbidding_6 : decode cX9_comesForbidding 6 = .ok (.iconst 0, 1) := by decide +kernel
theorem dX9_comesForbidding_7 : decode cX9_comesForbidding 7 = .ok (.ireturn, 1) := by decide +kernel
theorem dX9_comesForbidding_8 : decode cX9_comesForbidding 8 = .ok (.aload_n 0, 1) := by decide +kernel
theorem dX9_comesForbidding_9 : decode cX9_comesForbidding 9 = .ok (.dup, 1) := by decide +kernel
theorem dX9_comesForbidding_10 : decode cX9_comesForbidding 10 = .ok (.getfield 94, 3) := by decide +kernel
theorem dX9_comesForbidding_13 : decode cX9_comesForbidding 13 = .ok (.lconst 1, 1) := by decide +kernel
theorem dX9_comesForbidding_14 : decode cX9_comesForbidding 14 = .ok (.iload_n 1, 1) := by decide +kernel
theorem dX9_comesForbidding_15 : decode cX9_comesForbidding 15 = .ok (.lshl, 1) := by decide +kernel
theorem dX9_comesForbidding_16 : decode cX9_comesForbidding 16 = .ok (.lxor, 1) := by decide +kernel
theorem dX9_comesForbidding_17 : decode cX9_comesForbidding 17 = .ok (.putfield 94, 3) := by decide +kernel
theorem dX9_comesForbidding_20 : decode cX9_comesForbidding 20 = .ok (.iconst 1, 1) := by decide +kernel
theorem dX9_comesForbidding_21 : decode cX9_comesForbidding 21 = .ok (.ireturn, 1) := by decide +kernel
theorem dX9_comesNumber_0 : decode cX9_comesNumber 0 = .ok (.iload_n 1, 1) := by decide +kernel
theorem dX9_comesNumber_1 : decode cX9_comesNumber 1 = .ok (.bipush 114, 2) := by decide +kernel
theorem dX9_comesNumber_3 : decode cX9_comesNumber 3 = .ok (.if_icmp .ne 18, 3) := by decide +kernel
theorem dX9_comesNumber_6 : decode cX9_comesNumber 6 = .ok (.iload_n 2, 1) := by decide +kernel
theorem dX9_comesNumber_7 : decode cX9_comesNumber 7 = .ok (.bipush 18, 2) := by decide +kernel
theorem dX9_comesNumber_9 : decode cX9_comesNumber 9 = .ok (.if_icmp .le 5, 3) := by decide +kernel
theorem dX9_comesNumber_12 : decode cX9_comesNumber 12 = .ok (.iconst 0, 1) := by decide +kernel
theorem dX9_comesNumber_13 : decode cX9_comesNumber 13 = .ok (.ireturn, 1) := by decide +kernel
theorem dX9_comesNumber_14 : decode cX9_comesNumber 14 = .ok (.aload_n 0, 1) := by decide +kernel
theorem dX9_comesNumber_15 : decode cX9_comesNumber 15 = .ok (.iload_n 2, 1) := by decide +kernel
theorem dX9_comesNumber_16 : decode cX9_comesNumber 16 = .ok (.putfield 68, 3) := by decide +kernel
theorem dX9_comesNumber_19 : decode cX9_comesNumber 19 = .ok (.iconst 1, 1) := by decide +kernel
theorem dX9_comesNumber_20 : decode cX9_comesNumber 20 = .ok (.ireturn, 1) := by decide +kernel
theorem dX9_comesNumber_21 : decode cX9_comesNumber 21 = .ok (.iload_n 2, 1) := by decide +kernel
theorem dX9_comesNumber_22 : decode cX9_comesNumber 22 = .ok (.iconst 1, 1) := by decide +kernel
theorem dX9_comesNumber_23 : decode cX9_comesNumber 23 = .ok (.bipush 60, 2) := by decide +kernel
theorem dX9_comesNumber_25 : decode cX9_comesNumber 25 = .ok (.invokestatic 82, 3) := by decide +kernel
theorem dX9_comesNumber_28 : decode cX9_comesNumber 28 = .ok (.ifCond .eq 15, 3) := by decide +kernel
theorem dX9_comesNumber_31 : decode cX9_comesNumber 31 = .ok (.aload_n 0, 1) := by decide +kernel
theorem dX9_comesNumber_32 : decode cX9_comesNumber 32 = .ok (.getfield 147, 3) := by decide +kernel
theorem dX9_comesNumber_35 : decode cX9_comesNumber 35 = .ok (.iload_n 2, 1) := by decide +kernel
theorem dX9_comesNumber_36 : decode cX9_comesNumber 36 = .ok (.iadd, 1) := by decide +kernel
theorem dX9_comesNumber_37 : decode cX9_comesNumber 37 = .ok (.sipush 999, 3) := by decide +kernel
theorem dX9_comesNumber_40 : decode cX9_comesNumber 40 = .ok (.if_icmp .le 5, 3) := by decide +kernel
theorem dX9_comesNumber_43 : decode cX9_comesNumber 43 = .ok (.iconst 0, 1) := by decide +kernel
theorem dX9_comesNumber_44 : decode cX9_comesNumber 44 = .ok (.ireturn, 1) := by decide +kernel
theorem dX9_comesNumber_45 : decode cX9_comesNumber 45 = .ok (.aload_n 0, 1) := by decide +kernel
theorem dX9_comesNumber_46 : decode cX9_comesNumber 46 = .ok (.iload_n 2, 1) := by decide +kernel
theorem dX9_comesNumber_47 : decode cX9_comesNumber 47 = .ok (.invokevirtual 217, 3) := by decide +kernel
theorem dX9_comesNumber_50 : decode cX9_comesNumber 50 = .ok (.iconst 1, 1) := by decide +kernel
theorem dX9_comesNumber_51 : decode cX9_comesNumber 51 = .ok (.ireturn, 1) := by decide +kernel
theorem dX9_comesTold_0 : decode cX9_comesTold 0 = .ok (.iconst 2, 1) := by decide +kernel
theorem dX9_comesTold_1 : decode cX9_comesTold 1 = .ok (.iload_n 1, 1) := by decide +kernel
theorem dX9_comesTold_2 : decode cX9_comesTold 2 = .ok (.imul, 1) := by decide +kernel
theorem dX9_comesTold_3 : decode cX9_comesTold 3 = .ok (.istore_n 2, 1) := by decide +kernel
theorem dX9_comesTold_4 : decode cX9_comesTold 4 = .ok (.aload_n 0, 1) := by decide +kernel
theorem dX9_comesTold_5 : decode cX9_comesTold 5 = .ok (.getfield 47, 3) := by decide +kernel
theorem dX9_comesTold_8 : decode cX9_comesTold 8 = .ok (.iload_n 1, 1) := by decide +kernel
theorem dX9_comesTold_9 : decode cX9_comesTold 9 = .ok (.iaload, 1) := by decide +kernel
theorem dX9_comesTold_10 : decode cX9_comesTold 10 = .ok (.lookupswitch 130 #[(102, 69), (107, 88), (112, 50), (115, 107), (120, 119)], 50) := by decide +kernel
theorem dX9_comesTold_60 : decode cX9_comesTold 60 = .ok (.aload_n 0, 1) := by decide +kernel
theorem dX9_comesTold_61 : decode cX9_comesTold 61 = .ok (.aload_n 0, 1) := by decide +kernel
theorem dX9_comesTold_62 : decode cX9_comesTold 62 = .ok (.getfield 53, 3) := by decide +kernel
theorem dX9_comesTold_65 : decode cX9_comesTold 65 = .ok (.iload_n 2, 1) := by decide +kernel
theorem dX9_comesTold_66 : decode cX9_comesTold 66 = .ok (.iaload, 1) := by decide +kernel
theorem dX9_comesTold_67 : decode cX9_comesTold 67 = .ok (.aload_n 0, 1) := by decide +kernel
theorem dX9_comesTold_68 : decode cX9_comesTold 68 = .ok (.getfield 53, 3) := by decide +kernel
theorem dX9_comesTold_71 : decode cX9_comesTold 71 = .ok (.iload_n 2, 1) := by decide +kernel
theorem dX9_comesTold_72 : decode cX9_comesTold 72 = .ok (.iconst 1, 1) := by decide +kernel
theorem dX9_comesTold_73 : decode cX9_comesTold 73 = .ok (.iadd, 1) := by decide +kernel
theorem dX9_comesTold_74 : decode cX9_comesTold 74 = .ok (.iaload, 1) := by decide +kernel
theorem dX9_comesTold_75 : decode cX9_comesTold 75 = .ok (.invokevirtual 220, 3) := by decide +kernel
theorem dX9_comesTold_78 : decode cX9_comesTold 78 = .ok (.ireturn, 1) := by decide +kernel
theorem dX9_comesTold_79 : decode cX9_comesTold 79 = .ok (.aload_n 0, 1) := by decide +kernel
theorem dX9_comesTold_80 : decode cX9_comesTold 80 = .ok (.aload_n 0, 1) := by decide +kernel
theorem dX9_comesTold_81 : decode cX9_comesTold 81 = .ok (.getfield 53, 3) := by decide +kernel
theorem dX9_comesTold_84 : decode cX9_comesTold 84 = .ok (.iload_n 2, 1) := by decide +kernel
theorem dX9_comesTold_85 : decode cX9_comesTold 85 = .ok (.iaload, 1) := by decide +kernel
theorem dX9_comesTold_86 : decode cX9_comesTold 86 = .ok (.aload_n 0, 1) := by decide +kernel
theorem dX9_comesTold_87 : decode cX9_comesTold 87 = .ok (.getfield 53, 3) := by decide +kernel
theorem dX9_comesTold_90 : decode cX9_comesTold 90 = .ok (.iload_n 2, 1) := by decide +kernel
theorem dX9_comesTold_91 : decode cX9_comesTold 91 = .ok (.iconst 1, 1) := by decide +kernel
theorem dX9_comesTold_92 : decode cX9_comesTold 92 = .ok (.iadd, 1) := by decide +kernel
theorem dX9_comesTold_93 : decode cX9_comesTold 93 = .ok (.iaload, 1) := by decide +kernel
theorem dX9_comesTold_94 : decode cX9_comesTold 94 = .ok (.invokevirtual 224, 3) := by decide +kernel
theorem dX9_comesTold_97 : decode cX9_comesTold 97 = .ok (.ireturn, 1) := by decide +kernel
theorem dX9_comesTold_98 : decode cX9_comesTold 98 = .ok (.aload_n 0, 1) := by decide +kernel
theorem dX9_comesTold_99 : decode cX9_comesTold 99 = .ok (.aload_n 0, 1) := by decide +kernel
theorem dX9_comesTold_100 : decode cX9_comesTold 100 = .ok (.getfield 53, 3) := by decide +kernel
theorem dX9_comesTold_103 : decode cX9_comesTold 103 = .ok (.iload_n 2, 1) := by decide +kernel
theorem dX9_comesTold_104 : decode cX9_comesTold 104 = .ok (.iaload, 1) := by decide +kernel
theorem dX9_comesTold_105 : decode cX9_comesTold 105 = .ok (.aload_n 0, 1) := by decide +kernel
theorem dX9_comesTold_106 : decode cX9_comesTold 106 = .ok (.getfield 53, 3) := by decide +kernel
theorem dX9_comesTold_109 : decode cX9_comesTold 109 = .ok (.iload_n 2, 1) := by decide +kernel
theorem dX9_comesTold_110 : decode cX9_comesTold 110 = .ok (.iconst 1, 1) := by decide +kernel
theorem dX9_comesTold_111 : decode cX9_comesTold 111 = .ok (.iadd, 1) := by decide +kernel
theorem dX9_comesTold_112 : decode cX9_comesTold 112 = .ok (.iaload, 1) := by decide +kernel
theorem dX9_comesTold_113 : decode cX9_comesTold 113 = .ok (.invokevirtual 227, 3) := by decide +kernel
theorem dX9_comesTold_116 : decode cX9_comesTold 116 = .ok (.ireturn, 1) := by decide +kernel
theorem dX9_comesTold_117 : decode cX9_comesTold 117 = .ok (.aload_n 0, 1) := by decide +kernel
theorem dX9_comesTold_118 : decode cX9_comesTold 118 = .ok (.iconst (-1), 1) := by decide +kernel
theorem dX9_comesTold_119 : decode cX9_comesTold 119 = .ok (.aload_n 0, 1) := by decide +kernel
theorem dX9_comesTold_120 : decode cX9_comesTold 120 = .ok (.getfield 53, 3) := by decide +kernel
theorem dX9_comesTold_123 : decode cX9_comesTold 123 = .ok (.iload_n 2, 1) := by decide +kernel
theorem dX9_comesTold_124 : decode cX9_comesTold 124 = .ok (.iaload, 1) := by decide +kernel
theorem dX9_comesTold_125 : decode cX9_comesTold 125 = .ok (.invokevirtual 227, 3) := by decide +kernel
theorem dX9_comesTold_128 : decode cX9_comesTold 128 = .ok (.ireturn, 1) := by decide +kernel
theorem dX9_comesTold_129 : decode cX9_comesTold 129 = .ok (.aload_n 0, 1) := by decide +kernel
theorem dX9_comesTold_130 : decode cX9_comesTold 130 = .ok (.aload_n 0, 1) := by decide +kernel
theorem dX9_comesTold_131 : decode cX9_comesTold 131 = .ok (.getfield 53, 3) := by decide +kernel
theorem dX9_comesTold_134 : decode cX9_comesTold 134 = .ok (.iload_n 2, 1) := by decide +kernel
theorem dX9_comesTold_135 : decode cX9_comesTold 135 = .ok (.iaload, 1) := by decide +kernel
theorem dX9_comesTold_136 : decode cX9_comesTold 136 = .ok (.invokevirtual 230, 3) := by decide +kernel
theorem dX9_comesTold_139 : decode cX9_comesTold 139 = .ok (.ireturn, 1) := by decide +kernel
theorem dX9_comesTold_140 : decode cX9_comesTold 140 = .ok (.aload_n 0, 1) := by decide +kernel
theorem dX9_comesTold_141 : decode cX9_comesTold 141 = .ok (.aload_n 0, 1) := by decide +kernel
theorem dX9_comesTold_142 : decode cX9_comesTold 142 = .ok (.getfield 47, 3) := by decide +kernel
theorem dX9_comesTold_145 : decode cX9_comesTold 145 = .ok (.iload_n 1, 1) := by decide +kernel
theorem dX9_comesTold_146 : decode cX9_comesTold 146 = .ok (.iaload, 1) := by decide +kernel
theorem dX9_comesTold_147 : decode cX9_comesTold 147 = .ok (.aload_n 0, 1) := by decide +kernel
theorem dX9_comesTold_148 : decode cX9_comesTold 148 = .ok (.getfield 53, 3) := by decide +kernel
theorem dX9_comesTold_151 : decode cX9_comesTold 151 = .ok (.iload_n 2, 1) := by decide +kernel
theorem dX9_comesTold_152 : decode cX9_comesTold 152 = .ok (.iaload, 1) := by decide +kernel
theorem dX9_comesTold_153 : decode cX9_comesTold 153 = .ok (.invokevirtual 233, 3) := by decide +kernel
theorem dX9_comesTold_156 : decode cX9_comesTold 156 = .ok (.ireturn, 1) := by decide +kernel
theorem dX9_post_0 : decode cX9_post 0 = .ok (.aload_n 0, 1) := by decide +kernel
theorem dX9_post_1 : decode cX9_post 1 = .ok (.iconst 0, 1) := by decide +kernel
theorem dX9_post_2 : decode cX9_post 2 = .ok (.putfield 191, 3) := by decide +kernel
theorem dX9_post_5 : decode cX9_post 5 = .ok (.aload_n 0, 1) := by decide +kernel
theorem dX9_post_6 : decode cX9_post 6 = .ok (.iconst 0, 1) := by decide +kernel
theorem dX9_post_7 : decode cX9_post 7 = .ok (.putfield 204, 3) := by decide +kernel
theorem dX9_post_10 : decode cX9_post 10 = .ok (.iconst 1, 1) := by decide +kernel
theorem dX9_post_11 : decode cX9_post 11 = .ok (.istore_n 1, 1) := by decide +kernel
theorem dX9_post_12 : decode cX9_post 12 = .ok (.iload_n 1, 1) := by decide +kernel
theorem dX9_post_13 : decode cX9_post 13 = .ok (.ifCond .eq 47, 3) := by decide +kernel
theorem dX9_post_16 : decode cX9_post 16 = .ok (.aload_n 0, 1) := by decide +kernel
theorem dX9_post_17 : decode cX9_post 17 = .ok (.getfield 191, 3) := by decide +kernel
theorem dX9_post_20 : decode cX9_post 20 = .ok (.aload_n 0, 1) := by decide +kernel
theorem dX9_post_21 : decode cX9_post 21 = .ok (.getfield 185, 3) := by decide +kernel
theorem dX9_post_24 : decode cX9_post 24 = .ok (.if_icmp .lt 10, 3) := by decide +kernel
theorem dX9_post_27 : decode cX9_post 27 = .ok (.aload_n 0, 1) := by decide +kernel
theorem dX9_post_28 : decode cX9_post 28 = .ok (.getfield 204, 3) := by decide +kernel
theorem dX9_post_31 : decode cX9_post 31 = .ok (.ifCond .ne 29, 3) := by decide +kernel
theorem dX9_post_34 : decode cX9_post 34 = .ok (.aload_n 0, 1) := by decide +kernel
theorem dX9_post_35 : decode cX9_post 35 = .ok (.invokevirtual 236, 3) := by decide +kernel
theorem dX9_post_38 : decode cX9_post 38 = .ok (.istore_n 1, 1) := by decide +kernel
theorem dX9_post_39 : decode cX9_post 39 = .ok (.aload_n 0, 1) := by decide +kernel
theorem dX9_post_40 : decode cX9_post 40 = .ok (.dup, 1) := by decide +kernel
theorem dX9_post_41 : decode cX9_post 41 = .ok (.getfield 204, 3) := by decide +kernel
theorem dX9_post_44 : decode cX9_post 44 = .ok (.iload_n 1, 1) := by decide +kernel
theorem dX9_post_45 : decode cX9_post 45 = .ok (.ifCond .eq 7, 3) := by decide +kernel
theorem dX9_post_48 : decode cX9_post 48 = .ok (.iconst 1, 1) := by decide +kernel
theorem dX9_post_49 : decode cX9_post 49 = .ok (.goto 4, 3) := by decide +kernel
theorem dX9_post_52 : decode cX9_post 52 = .ok (.iconst 0, 1) := by decide +kernel
theorem dX9_post_53 : decode cX9_post 53 = .ok (.iadd, 1) := by decide +kernel
theorem dX9_post_54 : decode cX9_post 54 = .ok (.putfield 204, 3) := by decide +kernel
theorem dX9_post_57 : decode cX9_post 57 = .ok (.goto (-45), 3) := by decide +kernel
theorem dX9_post_60 : decode cX9_post 60 = .ok (.aload_n 0, 1) := by decide +kernel
theorem dX9_post_61 : decode cX9_post 61 = .ok (.iconst 0, 1) := by decide +kernel
theorem dX9_post_62 : decode cX9_post 62 = .ok (.putfield 185, 3) := by decide +kernel
theorem dX9_post_65 : decode cX9_post 65 = .ok (.iload_n 1, 1) := by decide +kernel
theorem dX9_post_66 : decode cX9_post 66 = .ok (.ifCond .ne 12, 3) := by decide +kernel
theorem dX9_post_69 : decode cX9_post 69 = .ok (.sipush (-1000), 3) := by decide +kernel
theorem dX9_post_72 : decode cX9_post 72 = .ok (.aload_n 0, 1) := by decide +kernel
theorem dX9_post_73 : decode cX9_post 73 = .ok (.getfield 191, 3) := by decide +kernel
theorem dX9_post_76 : decode cX9_post 76 = .ok (.isub, 1) := by decide +kernel
theorem dX9_post_77 : decode cX9_post 77 = .ok (.ireturn, 1) := by decide +kernel
theorem dX9_post_78 : decode cX9_post 78 = .ok (.aload_n 0, 1) := by decide +kernel
theorem dX9_post_79 : decode cX9_post 79 = .ok (.iconst 1, 1) := by decide +kernel
theorem dX9_post_80 : decode cX9_post 80 = .ok (.iconst 1, 1) := by decide +kernel
theorem dX9_post_81 : decode cX9_post 81 = .ok (.invokevirtual 240, 3) := by decide +kernel
theorem dX9_post_84 : decode cX9_post 84 = .ok (.iconst 0, 1) := by decide +kernel
theorem dX9_post_85 : decode cX9_post 85 = .ok (.istore_n 2, 1) := by decide +kernel
theorem dX9_post_86 : decode cX9_post 86 = .ok (.iload_n 2, 1) := by decide +kernel
theorem dX9_post_87 : decode cX9_post 87 = .ok (.aload_n 0, 1) := by decide +kernel
theorem dX9_post_88 : decode cX9_post 88 = .ok (.getfield 204, 3) := by decide +kernel
theorem dX9_post_91 : decode cX9_post 91 = .ok (.if_icmp .ge 37, 3) := by decide +kernel
theorem dX9_post_94 : decode cX9_post 94 = .ok (.aload_n 0, 1) := by decide +kernel
theorem dX9_post_95 : decode cX9_post 95 = .ok (.iload_n 2, 1) := by decide +kernel
theorem dX9_post_96 : decode cX9_post 96 = .ok (.invokevirtual 244, 3) := by decide +kernel
theorem dX9_post_99 : decode cX9_post 99 = .ok (.ifCond .eq 6, 3) := by decide +kernel
theorem dX9_post_102 : decode cX9_post 102 = .ok (.goto 20, 3) := by decide +kernel
theorem dX9_post_105 : decode cX9_post 105 = .ok (.aload_n 0, 1) := by decide +kernel
theorem dX9_post_106 : decode cX9_post 106 = .ok (.iconst 1, 1) := by decide +kernel
theorem dX9_post_107 : decode cX9_post 107 = .ok (.iconst 0, 1) := by decide +kernel
theorem dX9_post_108 : decode cX9_post 108 = .ok (.invokevirtual 240, 3) := by decide +kernel
theorem dX9_post_111 : decode cX9_post 111 = .ok (.sipush (-2000), 3) := by decide +kernel
theorem dX9_post_114 : decode cX9_post 114 = .ok (.aload_n 0, 1) := by decide +kernel
theorem dX9_post_115 : decode cX9_post 115 = .ok (.getfield 50, 3) := by decide +kernel
theorem dX9_post_118 : decode cX9_post 118 = .ok (.iload_n 2, 1) := by decide +kernel
theorem dX9_post_119 : decode cX9_post 119 = .ok (.iaload, 1) := by decide +kernel
theorem dX9_post_120 : decode cX9_post 120 = .ok (.isub, 1) := by decide +kernel
theorem dX9_post_121 : decode cX9_post 121 = .ok (.ireturn, 1) := by decide +kernel
theorem dX9_post_122 : decode cX9_post 122 = .ok (.iinc 2 1, 3) := by decide +kernel
theorem dX9_post_125 : decode cX9_post 125 = .ok (.goto (-39), 3) := by decide +kernel
theorem dX9_post_128 : decode cX9_post 128 = .ok (.aload_n 0, 1) := by decide +kernel
theorem dX9_post_129 : decode cX9_post 129 = .ok (.iconst 0, 1) := by decide +kernel
theorem dX9_post_130 : decode cX9_post 130 = .ok (.putfield 247, 3) := by decide +kernel
theorem dX9_post_133 : decode cX9_post 133 = .ok (.aload_n 0, 1) := by decide +kernel
theorem dX9_post_134 : decode cX9_post 134 = .ok (.getfield 204, 3) := by decide +kernel
theorem dX9_post_137 : decode cX9_post 137 = .ok (.ireturn, 1) := by decide +kernel
theorem dX9_passes_0 : decode cX9_passes 0 = .ok (.iconst 0, 1) := by decide +kernel
theorem dX9_passes_1 : decode cX9_passes 1 = .ok (.istore_n 2, 1) := by decide +kernel
theorem dX9_passes_2 : decode cX9_passes 2 = .ok (.iload_n 2, 1) := by decide +kernel
theorem dX9_passes_3 : decode cX9_passes 3 = .ok (.aload_n 1, 1) := by decide +kernel
theorem dX9_passes_4 : decode cX9_passes 4 = .ok (.arraylength, 1) := by decide +kernel
theorem dX9_passes_5 : decode cX9_passes 5 = .ok (.if_icmp .ge 53, 3) := by decide +kernel
theorem dX9_passes_8 : decode cX9_passes 8 = .ok (.aload_n 0, 1) := by decide +kernel
theorem dX9_passes_9 : decode cX9_passes 9 = .ok (.getfield 250, 3) := by decide +kernel
theorem dX9_passes_12 : decode cX9_passes 12 = .ok (.ifCond .eq 18, 3) := by decide +kernel
theorem dX9_passes_15 : decode cX9_passes 15 = .ok (.aload_n 0, 1) := by decide +kernel
theorem dX9_passes_16 : decode cX9_passes 16 = .ok (.getfield 56, 3) := by decide +kernel
theorem dX9_passes_19 : decode cX9_passes 19 = .ok (.aload_n 0, 1) := by decide +kernel
theorem dX9_passes_20 : decode cX9_passes 20 = .ok (.getfield 253, 3) := by decide +kernel
theorem dX9_passes_23 : decode cX9_passes 23 = .ok (.aload_n 1, 1) := by decide +kernel
theorem dX9_passes_24 : decode cX9_passes 24 = .ok (.iload_n 2, 1) := by decide +kernel
theorem dX9_passes_25 : decode cX9_passes 25 = .ok (.iaload, 1) := by decide +kernel
theorem dX9_passes_26 : decode cX9_passes 26 = .ok (.iastore, 1) := by decide +kernel
theorem dX9_passes_27 : decode cX9_passes 27 = .ok (.goto 15, 3) := by decide +kernel
theorem dX9_passes_30 : decode cX9_passes 30 = .ok (.aload_n 1, 1) := by decide +kernel
theorem dX9_passes_31 : decode cX9_passes 31 = .ok (.iload_n 2, 1) := by decide +kernel
theorem dX9_passes_32 : decode cX9_passes 32 = .ok (.aload_n 0, 1) := by decide +kernel
theorem dX9_passes_33 : decode cX9_passes 33 = .ok (.getfield 56, 3) := by decide +kernel
theorem dX9_passes_36 : decode cX9_passes 36 = .ok (.aload_n 0, 1) := by decide +kernel
theorem dX9_passes_37 : decode cX9_passes 37 = .ok (.getfield 253, 3) := by decide +kernel
theorem dX9_passes_40 : decode cX9_passes 40 = .ok (.iaload, 1) := by decide +kernel
theorem dX9_passes_41 : decode cX9_passes 41 = .ok (.iastore, 1) := by decide +kernel
theorem dX9_passes_42 : decode cX9_passes 42 = .ok (.aload_n 0, 1) := by decide +kernel
theorem dX9_passes_43 : decode cX9_passes 43 = .ok (.dup, 1) := by decide +kernel
theorem dX9_passes_44 : decode cX9_passes 44 = .ok (.getfield 253, 3) := by decide +kernel
theorem dX9_passes_47 : decode cX9_passes 47 = .ok (.iconst 1, 1) := by decide +kernel
theorem dX9_passes_48 : decode cX9_passes 48 = .ok (.iadd, 1) := by decide +kernel
theorem dX9_passes_49 : decode cX9_passes 49 = .ok (.putfield 253, 3) := by decide +kernel
theorem dX9_passes_52 : decode cX9_passes 52 = .ok (.iinc 2 1, 3) := by decide +kernel
theorem dX9_passes_55 : decode cX9_passes 55 = .ok (.goto (-53), 3) := by decide +kernel
theorem dX9_passes_58 : decode cX9_passes 58 = .ok (.return_, 1) := by decide +kernel
theorem dX9_passesSets_0 : decode cX9_passesSets 0 = .ok (.iconst 0, 1) := by decide +kernel
theorem dX9_passesSets_1 : decode cX9_passesSets 1 = .ok (.istore_n 2, 1) := by decide +kernel
theorem dX9_passesSets_2 : decode cX9_passesSets 2 = .ok (.iload_n 2, 1) := by decide +kernel
theorem dX9_passesSets_3 : decode cX9_passesSets 3 = .ok (.aload_n 1, 1) := by decide +kernel
theorem dX9_passesSets_4 : decode cX9_passesSets 4 = .ok (.arraylength, 1) := by decide +kernel
theorem dX9_passesSets_5 : decode cX9_passesSets 5 = .ok (.if_icmp .ge 53, 3) := by decide +kernel
theorem dX9_passesSets_8 : decode cX9_passesSets 8 = .ok (.aload_n 0, 1) := by decide +kernel
theorem dX9_passesSets_9 : decode cX9_passesSets 9 = .ok (.getfield 250, 3) := by decide +kernel
theorem dX9_passesSets_12 : decode cX9_passesSets 12 = .ok (.ifCond .eq 18, 3) := by decide +kernel
theorem dX9_passesSets_15 : decode cX9_passesSets 15 = .ok (.aload_n 0, 1) := by decide +kernel
theorem dX9_passesSets_16 : decode cX9_passesSets 16 = .ok (.getfield 59, 3) := by decide +kernel
theorem dX9_passesSets_19 : decode cX9_passesSets 19 = .ok (.aload_n 0, 1) := by decide +kernel
theorem dX9_passesSets_20 : decode cX9_passesSets 20 = .ok (.getfield 256, 3) := by decide +kernel
theorem dX9_passesSets_23 : decode cX9_passesSets 23 = .ok (.aload_n 1, 1) := by decide +kernel
theorem dX9_passesSets_24 : decode cX9_passesSets 24 = .ok (.iload_n 2, 1) := by decide +kernel
theorem dX9_passesSets_25 : decode cX9_passesSets 25 = .ok (.laload, 1) := by decide +kernel
theorem dX9_passesSets_26 : decode cX9_passesSets 26 = .ok (.lastore, 1) := by decide +kernel
theorem dX9_passesSets_27 : decode cX9_passesSets 27 = .ok (.goto 15, 3) := by decide +kernel
theorem dX9_passesSets_30 : decode cX9_passesSets 30 = .ok (.aload_n 1, 1) := by decide +kernel
theorem dX9_passesSets_31 : decode cX9_passesSets 31 = .ok (.iload_n 2, 1) := by decide +kernel
theorem dX9_passesSets_32 : decode cX9_passesSets 32 = .ok (.aload_n 0, 1) := by decide +kernel
theorem dX9_passesSets_33 : decode cX9_passesSets 33 = .ok (.getfield 59, 3) := by decide +kernel
theorem dX9_passesSets_36 : decode cX9_passesSets 36 = .ok (.aload_n 0, 1) := by decide +kernel
theorem dX9_passesSets_37 : decode cX9_passesSets 37 = .ok (.getfield 256, 3) := by decide +kernel
theorem dX9_passesSets_40 : decode cX9_passesSets 40 = .ok (.laload, 1) := by decide +kernel
theorem dX9_passesSets_41 : decode cX9_passesSets 41 = .ok (.lastore, 1) := by decide +kernel
theorem dX9_passesSets_42 : decode cX9_passesSets 42 = .ok (.aload_n 0, 1) := by decide +kernel
theorem dX9_passesSets_43 : decode cX9_passesSets 43 = .ok (.dup, 1) := by decide +kernel
theorem dX9_passesSets_44 : decode cX9_passesSets 44 = .ok (.getfield 256, 3) := by decide +kernel
theorem dX9_passesSets_47 : decode cX9_passesSets 47 = .ok (.iconst 1, 1) := by decide +kernel
theorem dX9_passesSets_48 : decode cX9_passesSets 48 = .ok (.iadd, 1) := by decide +kernel
theorem dX9_passesSets_49 : decode cX9_passesSets 49 = .ok (.putfield 256, 3) := by decide +kernel
theorem dX9_passesSets_52 : decode cX9_passesSets 52 = .ok (.iinc 2 1, 3) := by decide +kernel
theorem dX9_passesSets_55 : decode cX9_passesSets 55 = .ok (.goto (-53), 3) := by decide +kernel
theorem dX9_passesSets_58 : decode cX9_passesSets 58 = .ok (.return_, 1) := by decide +kernel
theorem dX9_passOne_0 : decode cX9_passOne 0 = .ok (.aload_n 0, 1) := by decide +kernel
theorem dX9_passOne_1 : decode cX9_passOne 1 = .ok (.getfield 250, 3) := by decide +kernel
theorem dX9_passOne_4 : decode cX9_passOne 4 = .ok (.ifCond .eq 7, 3) := by decide +kernel
theorem dX9_passOne_7 : decode cX9_passOne 7 = .ok (.iload_n 1, 1) := by decide +kernel
theorem dX9_passOne_8 : decode cX9_passOne 8 = .ok (.goto 12, 3) := by decide +kernel
theorem dX9_passOne_11 : decode cX9_passOne 11 = .ok (.aload_n 0, 1) := by decide +kernel
theorem dX9_passOne_12 : decode cX9_passOne 12 = .ok (.getfield 56, 3) := by decide +kernel
theorem dX9_passOne_15 : decode cX9_passOne 15 = .ok (.aload_n 0, 1) := by decide +kernel
theorem dX9_passOne_16 : decode cX9_passOne 16 = .ok (.getfield 253, 3) := by decide +kernel
theorem dX9_passOne_19 : decode cX9_passOne 19 = .ok (.iaload, 1) := by decide +kernel
theorem dX9_passOne_20 : decode cX9_passOne 20 = .ok (.istore_n 2, 1) := by decide +kernel
theorem dX9_passOne_21 : decode cX9_passOne 21 = .ok (.aload_n 0, 1) := by decide +kernel
theorem dX9_passOne_22 : decode cX9_passOne 22 = .ok (.getfield 250, 3) := by decide +kernel
theorem dX9_passOne_25 : decode cX9_passOne 25 = .ok (.ifCond .eq 13, 3) := by decide +kernel
theorem dX9_passOne_28 : decode cX9_passOne 28 = .ok (.aload_n 0, 1) := by decide +kernel
theorem dX9_passOne_29 : decode cX9_passOne 29 = .ok (.getfield 56, 3) := by decide +kernel
theorem dX9_passOne_32 : decode cX9_passOne 32 = .ok (.aload_n 0, 1) := by decide +kernel
theorem dX9_passOne_33 : decode cX9_passOne 33 = .ok (.getfield 253, 3) := by decide +kernel
theorem dX9_passOne_36 : decode cX9_passOne 36 = .ok (.iload_n 1, 1) := by decide +kernel
theorem dX9_passOne_37 : decode cX9_passOne 37 = .ok (.iastore, 1) := by decide +kernel
theorem dX9_passOne_38 : decode cX9_passOne 38 = .ok (.aload_n 0, 1) := by decide +kernel
theorem dX9_passOne_39 : decode cX9_passOne 39 = .ok (.dup, 1) := by decide +kernel
theorem dX9_passOne_40 : decode cX9_passOne 40 = .ok (.getfield 253, 3) := by decide +kernel
theorem dX9_passOne_43 : decode cX9_passOne 43 = .ok (.iconst 1, 1) := by decide +kernel
theorem dX9_passOne_44 : decode cX9_passOne 44 = .ok (.iadd, 1) := by decide +kernel
theorem dX9_passOne_45 : decode cX9_passOne 45 = .ok (.putfield 253, 3) := by decide +kernel
theorem dX9_passOne_48 : decode cX9_passOne 48 = .ok (.iload_n 2, 1) := by decide +kernel
theorem dX9_passOne_49 : decode cX9_passOne 49 = .ok (.ireturn, 1) := by decide +kernel
theorem dX9_passSet_0 : decode cX9_passSet 0 = .ok (.aload_n 0, 1) := by decide +kernel
theorem dX9_passSet_1 : decode cX9_passSet 1 = .ok (.getfield 250, 3) := by decide +kernel
theorem dX9_passSet_4 : decode cX9_passSet 4 = .ok (.ifCond .eq 7, 3) := by decide +kernel
theorem dX9_passSet_7 : decode cX9_passSet 7 = .ok (.lload_n 1, 1) := by decide +kernel
theorem dX9_passSet_8 : decode cX9_passSet 8 = .ok (.goto 12, 3) := by decide +kernel
theorem dX9_passSet_11 : decode cX9_passSet 11 = .ok (.aload_n 0, 1) := by decide +kernel
theorem dX9_passSet_12 : decode cX9_passSet 12 = .ok (.getfield 59, 3) := by decide +kernel
theorem dX9_passSet_15 : decode cX9_passSet 15 = .ok (.aload_n 0, 1) := by decide +kernel
theorem dX9_passSet_16 : decode cX9_passSet 16 = .ok (.getfield 256, 3) := by decide +kernel
theorem dX9_passSet_19 : decode cX9_passSet 19 = .ok (.laload, 1) := by decide +kernel
theorem dX9_passSet_20 : decode cX9_passSet 20 = .ok (.lstore_n 3, 1) := by decide +kernel
theorem dX9_passSet_21 : decode cX9_passSet 21 = .ok (.aload_n 0, 1) := by decide +kernel
theorem dX9_passSet_22 : decode cX9_passSet 22 = .ok (.getfield 250, 3) := by decide +kernel
theorem dX9_passSet_25 : decode cX9_passSet 25 = .ok (.ifCond .eq 13, 3) := by decide +kernel
theorem dX9_passSet_28 : decode cX9_passSet 28 = .ok (.aload_n 0, 1) := by decide +kernel
theorem dX9_passSet_29 : decode cX9_passSet 29 = .ok (.getfield 59, 3) := by decide +kernel
theorem dX9_passSet_32 : decode cX9_passSet 32 = .ok (.aload_n 0, 1) := by decide +kernel
theorem dX9_passSet_33 : decode cX9_passSet 33 = .ok (.getfield 256, 3) := by decide +kernel
theorem dX9_passSet_36 : decode cX9_passSet 36 = .ok (.lload_n 1, 1) := by decide +kernel
theorem dX9_passSet_37 : decode cX9_passSet 37 = .ok (.lastore, 1) := by decide +kernel
theorem dX9_passSet_38 : decode cX9_passSet 38 = .ok (.aload_n 0, 1) := by decide +kernel
theorem dX9_passSet_39 : decode cX9_passSet 39 = .ok (.dup, 1) := by decide +kernel
theorem dX9_passSet_40 : decode cX9_passSet 40 = .ok (.getfield 256, 3) := by decide +kernel
theorem dX9_passSet_43 : decode cX9_passSet 43 = .ok (.iconst 1, 1) := by decide +kernel
theorem dX9_passSet_44 : decode cX9_passSet 44 = .ok (.iadd, 1) := by decide +kernel
theorem dX9_passSet_45 : decode cX9_passSet 45 = .ok (.putfield 256, 3) := by decide +kernel
theorem dX9_passSet_48 : decode cX9_passSet 48 = .ok (.lload_n 3, 1) := by decide +kernel
theorem dX9_passSet_49 : decode cX9_passSet 49 = .ok (.lreturn, 1) := by decide +kernel
theorem dX9_passesAll_0 : decode cX9_passesAll 0 = .ok (.aload_n 0, 1) := by decide +kernel
theorem dX9_passesAll_1 : decode cX9_passesAll 1 = .ok (.bipush 120, 2) := by decide +kernel
theorem dX9_passesAll_3 : decode cX9_passesAll 3 = .ok (.iload_n 1, 1) := by decide +kernel
theorem dX9_passesAll_4 : decode cX9_passesAll 4 = .ok (.imul, 1) := by decide +kernel
theorem dX9_passesAll_5 : decode cX9_passesAll 5 = .ok (.putfield 253, 3) := by decide +kernel
theorem dX9_passesAll_8 : decode cX9_passesAll 8 = .ok (.aload_n 0, 1) := by decide +kernel
theorem dX9_passesAll_9 : decode cX9_passesAll 9 = .ok (.bipush 38, 2) := by decide +kernel
theorem dX9_passesAll_11 : decode cX9_passesAll 11 = .ok (.iload_n 1, 1) := by decide +kernel
theorem dX9_passesAll_12 : decode cX9_passesAll 12 = .ok (.imul, 1) := by decide +kernel
theorem dX9_passesAll_13 : decode cX9_passesAll 13 = .ok (.putfield 256, 3) := by decide +kernel
theorem dX9_passesAll_16 : decode cX9_passesAll 16 = .ok (.aload_n 0, 1) := by decide +kernel
theorem dX9_passesAll_17 : decode cX9_passesAll 17 = .ok (.iload_n 2, 1) := by decide +kernel
theorem dX9_passesAll_18 : decode cX9_passesAll 18 = .ok (.putfield 250, 3) := by decide +kernel
theorem dX9_passesAll_21 : decode cX9_passesAll 21 = .ok (.aload_n 0, 1) := by decide +kernel
theorem dX9_passesAll_22 : decode cX9_passesAll 22 = .ok (.aload_n 0, 1) := by decide +kernel
theorem dX9_passesAll_23 : decode cX9_passesAll 23 = .ok (.getfield 13, 3) := by decide +kernel
theorem dX9_passesAll_26 : decode cX9_passesAll 26 = .ok (.invokevirtual 259, 3) := by decide +kernel
theorem dX9_passesAll_29 : decode cX9_passesAll 29 = .ok (.aload_n 0, 1) := by decide +kernel
theorem dX9_passesAll_30 : decode cX9_passesAll 30 = .ok (.aload_n 0, 1) := by decide +kernel
theorem dX9_passesAll_31 : decode cX9_passesAll 31 = .ok (.getfield 16, 3) := by decide +kernel
theorem dX9_passesAll_34 : decode cX9_passesAll 34 = .ok (.invokevirtual 259, 3) := by decide +kernel
theorem dX9_passesAll_37 : decode cX9_passesAll 37 = .ok (.aload_n 0, 1) := by decide +kernel
theorem dX9_passesAll_38 : decode cX9_passesAll 38 = .ok (.aload_n 0, 1) := by decide +kernel
theorem dX9_passesAll_39 : decode cX9_passesAll 39 = .ok (.getfield 19, 3) := by decide +kernel
theorem dX9_passesAll_42 : decode cX9_passesAll 42 = .ok (.invokevirtual 259, 3) := by decide +kernel
theorem dX9_passesAll_45 : decode cX9_passesAll 45 = .ok (.aload_n 0, 1) := by decide +kernel
theorem dX9_passesAll_46 : decode cX9_passesAll 46 = .ok (.aload_n 0, 1) := by decide +kernel
theorem dX9_passesAll_47 : decode cX9_passesAll 47 = .ok (.getfield 22, 3) := by decide +kernel
theorem dX9_passesAll_50 : decode cX9_passesAll 50 = .ok (.invokevirtual 259, 3) := by decide +kernel
theorem dX9_passesAll_53 : decode cX9_passesAll 53 = .ok (.aload_n 0, 1) := by decide +kernel
theorem dX9_passesAll_54 : decode cX9_passesAll 54 = .ok (.aload_n 0, 1) := by decide +kernel
theorem dX9_passesAll_55 : decode cX9_passesAll 55 = .ok (.getfield 25, 3) := by decide +kernel
theorem dX9_passesAll_58 : decode cX9_passesAll 58 = .ok (.invokevirtual 259, 3) := by decide +kernel
theorem dX9_passesAll_61 : decode cX9_passesAll 61 = .ok (.aload_n 0, 1) := by decide +kernel
theorem dX9_passesAll_62 : decode cX9_passesAll 62 = .ok (.aload_n 0, 1) := by decide +kernel
theorem dX9_passesAll_63 : decode cX9_passesAll 63 = .ok (.getfield 28, 3) := by decide +kernel
theorem dX9_passesAll_66 : decode cX9_passesAll 66 = .ok (.invokevirtual 259, 3) := by decide +kernel
theorem dX9_passesAll_69 : decode cX9_passesAll 69 = .ok (.aload_n 0, 1) := by decide +kernel
theorem dX9_passesAll_70 : decode cX9_passesAll 70 = .ok (.aload_n 0, 1) := by decide +kernel
theorem dX9_passesAll_71 : decode cX9_passesAll 71 = .ok (.getfield 31, 3) := by decide +kernel
theorem dX9_passesAll_74 : decode cX9_passesAll 74 = .ok (.invokevirtual 259, 3) := by decide +kernel
theorem dX9_passesAll_77 : decode cX9_passesAll 77 = .ok (.aload_n 0, 1) := by decide +kernel
theorem dX9_passesAll_78 : decode cX9_passesAll 78 = .ok (.aload_n 0, 1) := by decide +kernel
theorem dX9_passesAll_79 : decode cX9_passesAll 79 = .ok (.aload_n 0, 1) := by decide +kernel
theorem dX9_passesAll_80 : decode cX9_passesAll 80 = .ok (.getfield 79, 3) := by decide +kernel
theorem dX9_passesAll_83 : decode cX9_passesAll 83 = .ok (.invokevirtual 263, 3) := by decide +kernel
theorem dX9_passesAll_86 : decode cX9_passesAll 86 = .ok (.putfield 79, 3) := by decide +kernel
theorem dX9_passesAll_89 : decode cX9_passesAll 89 = .ok (.aload_n 0, 1) := by decide +kernel
theorem dX9_passesAll_90 : decode cX9_passesAll 90 = .ok (.aload_n 0, 1) := by decide +kernel
theorem dX9_passesAll_91 : decode cX9_passesAll 91 = .ok (.aload_n 0, 1) := by decide +kernel
theorem dX9_passesAll_92 : decode cX9_passesAll 92 = .ok (.getfield 134, 3) := by decide +kernel
theorem dX9_passesAll_95 : decode cX9_passesAll 95 = .ok (.invokevirtual 263, 3) := by decide +kernel
theorem dX9_passesAll_98 : decode cX9_passesAll 98 = .ok (.putfield 134, 3) := by decide +kernel
theorem dX9_passesAll_101 : decode cX9_passesAll 101 = .ok (.aload_n 0, 1) := by decide +kernel
theorem dX9_passesAll_102 : decode cX9_passesAll 102 = .ok (.aload_n 0, 1) := by decide +kernel
theorem dX9_passesAll_103 : decode cX9_passesAll 103 = .ok (.aload_n 0, 1) := by decide +kernel
theorem dX9_passesAll_104 : decode cX9_passesAll 104 = .ok (.getfield 68, 3) := by decide +kernel
theorem dX9_passesAll_107 : decode cX9_passesAll 107 = .ok (.invokevirtual 263, 3) := by decide +kernel
theorem dX9_passesAll_110 : decode cX9_passesAll 110 = .ok (.putfield 68, 3) := by decide +kernel
theorem dX9_passesAll_113 : decode cX9_passesAll 113 = .ok (.aload_n 0, 1) := by decide +kernel
theorem dX9_passesAll_114 : decode cX9_passesAll 114 = .ok (.aload_n 0, 1) := by decide +kernel
theorem dX9_passesAll_115 : decode cX9_passesAll 115 = .ok (.aload_n 0, 1) := by decide +kernel
theorem dX9_passesAll_116 : decode cX9_passesAll 116 = .ok (.getfield 128, 3) := by decide +kernel
theorem dX9_passesAll_119 : decode cX9_passesAll 119 = .ok (.invokevirtual 263, 3) := by decide +kernel
theorem dX9_passesAll_122 : decode cX9_passesAll 122 = .ok (.putfield 128, 3) := by decide +kernel
theorem dX9_passesAll_125 : decode cX9_passesAll 125 = .ok (.aload_n 0, 1) := by decide +kernel
theorem dX9_passesAll_126 : decode cX9_passesAll 126 = .ok (.aload_n 0, 1) := by decide +kernel
theorem dX9_passesAll_127 : decode cX9_passesAll 127 = .ok (.aload_n 0, 1) := by decide +kernel
theorem dX9_passesAll_128 : decode cX9_passesAll 128 = .ok (.getfield 110, 3) := by decide +kernel
theorem dX9_passesAll_131 : decode cX9_passesAll 131 = .ok (.invokevirtual 263, 3) := by decide +kernel
theorem dX9_passesAll_134 : decode cX9_passesAll 134 = .ok (.putfield 110, 3) := by decide +kernel
theorem dX9_passesAll_137 : decode cX9_passesAll 137 = .ok (.aload_n 0, 1) := by decide +kernel
theorem dX9_passesAll_138 : decode cX9_passesAll 138 = .ok (.aload_n 0, 1) := by decide +kernel
theorem dX9_passesAll_139 : decode cX9_passesAll 139 = .ok (.aload_n 0, 1) := by decide +kernel
theorem dX9_passesAll_140 : decode cX9_passesAll 140 = .ok (.getfield 147, 3) := by decide +kernel
theorem dX9_passesAll_143 : decode cX9_passesAll 143 = .ok (.invokevirtual 263, 3) := by decide +kernel
theorem dX9_passesAll_146 : decode cX9_passesAll 146 = .ok (.putfield 147, 3) := by decide +kernel
theorem dX9_passesAll_149 : decode cX9_passesAll 149 = .ok (.aload_n 0, 1) := by decide +kernel
theorem dX9_passesAll_150 : decode cX9_passesAll 150 = .ok (.aload_n 0, 1) := by decide +kernel
theorem dX9_passesAll_151 : decode cX9_passesAll 151 = .ok (.getfield 34, 3) := by decide +kernel
theorem dX9_passesAll_154 : decode cX9_passesAll 154 = .ok (.invokevirtual 266, 3) := by decide +kernel
theorem dX9_passesAll_157 : decode cX9_passesAll 157 = .ok (.aload_n 0, 1) := by decide +kernel
theorem dX9_passesAll_158 : decode cX9_passesAll 158 = .ok (.aload_n 0, 1) := by decide +kernel
theorem dX9_passesAll_159 : decode cX9_passesAll 159 = .ok (.getfield 38, 3) := by decide +kernel
theorem dX9_passesAll_162 : decode cX9_passesAll 162 = .ok (.invokevirtual 266, 3) := by decide +kernel
theorem dX9_passesAll_165 : decode cX9_passesAll 165 = .ok (.aload_n 0, 1) := by decide +kernel
theorem dX9_passesAll_166 : decode cX9_passesAll 166 = .ok (.aload_n 0, 1) := by decide +kernel
theorem dX9_passesAll_167 : decode cX9_passesAll 167 = .ok (.getfield 41, 3) := by decide +kernel
theorem dX9_passesAll_170 : decode cX9_passesAll 170 = .ok (.invokevirtual 266, 3) := by decide +kernel
theorem dX9_passesAll_173 : decode cX9_passesAll 173 = .ok (.aload_n 0, 1) := by decide +kernel
theorem dX9_passesAll_174 : decode cX9_passesAll 174 = .ok (.aload_n 0, 1) := by decide +kernel
theorem dX9_passesAll_175 : decode cX9_passesAll 175 = .ok (.aload_n 0, 1) := by decide +kernel
theorem dX9_passesAll_176 : decode cX9_passesAll 176 = .ok (.getfield 86, 3) := by decide +kernel
theorem dX9_passesAll_179 : decode cX9_passesAll 179 = .ok (.invokevirtual 270, 3) := by decide +kernel
theorem dX9_passesAll_182 : decode cX9_passesAll 182 = .ok (.putfield 86, 3) := by decide +kernel
theorem dX9_passesAll_185 : decode cX9_passesAll 185 = .ok (.aload_n 0, 1) := by decide +kernel
theorem dX9_passesAll_186 : decode cX9_passesAll 186 = .ok (.aload_n 0, 1) := by decide +kernel
theorem dX9_passesAll_187 : decode cX9_passesAll 187 = .ok (.aload_n 0, 1) := by decide +kernel
theorem dX9_passesAll_188 : decode cX9_passesAll 188 = .ok (.getfield 94, 3) := by decide +kernel
theorem dX9_passesAll_191 : decode cX9_passesAll 191 = .ok (.invokevirtual 270, 3) := by decide +kernel
theorem dX9_passesAll_194 : decode cX9_passesAll 194 = .ok (.putfield 94, 3) := by decide +kernel
theorem dX9_passesAll_197 : decode cX9_passesAll 197 = .ok (.return_, 1) := by decide +kernel
theorem dX9_minds_0 : decode cX9_minds 0 = .ok (.aload_n 0, 1) := by decide +kernel
theorem dX9_minds_1 : decode cX9_minds 1 = .ok (.iconst 2, 1) := by decide +kernel
theorem dX9_minds_2 : decode cX9_minds 2 = .ok (.iconst 1, 1) := by decide +kernel
theorem dX9_minds_3 : decode cX9_minds 3 = .ok (.invokevirtual 240, 3) := by decide +kernel
theorem dX9_minds_6 : decode cX9_minds 6 = .ok (.return_, 1) := by decide +kernel
theorem dX9_forgets_0 : decode cX9_forgets 0 = .ok (.aload_n 0, 1) := by decide +kernel
theorem dX9_forgets_1 : decode cX9_forgets 1 = .ok (.iconst 2, 1) := by decide +kernel
theorem dX9_forgets_2 : decode cX9_forgets 2 = .ok (.iconst 0, 1) := by decide +kernel
theorem dX9_forgets_3 : decode cX9_forgets 3 = .ok (.invokevirtual 240, 3) := by decide +kernel
theorem dX9_forgets_6 : decode cX9_forgets 6 = .ok (.aload_n 0, 1) := by decide +kernel
theorem dX9_forgets_7 : decode cX9_forgets 7 = .ok (.iconst 0, 1) := by decide +kernel
theorem dX9_forgets_8 : decode cX9_forgets 8 = .ok (.putfield 159, 3) := by decide +kernel
theorem dX9_forgets_11 : decode cX9_forgets 11 = .ok (.aload_n 0, 1) := by decide +kernel
theorem dX9_forgets_12 : decode cX9_forgets 12 = .ok (.iconst 0, 1) := by decide +kernel
theorem dX9_forgets_13 : decode cX9_forgets 13 = .ok (.putfield 103, 3) := by decide +kernel
theorem dX9_forgets_16 : decode cX9_forgets 16 = .ok (.aload_n 0, 1) := by decide +kernel
theorem dX9_forgets_17 : decode cX9_forgets 17 = .ok (.iconst 0, 1) := by decide +kernel
theorem dX9_forgets_18 : decode cX9_forgets 18 = .ok (.putfield 107, 3) := by decide +kernel
theorem dX9_forgets_21 : decode cX9_forgets 21 = .ok (.return_, 1) := by decide +kernel
theorem dX9_remembers_0 : decode cX9_remembers 0 = .ok (.aload_n 0, 1) := by decide +kernel
theorem dX9_remembers_1 : decode cX9_remembers 1 = .ok (.getfield 247, 3) := by decide +kernel
theorem dX9_remembers_4 : decode cX9_remembers 4 = .ok (.bipush 8, 2) := by decide +kernel
theorem dX9_remembers_6 : decode cX9_remembers 6 = .ok (.if_icmp .ne 19, 3) := by decide +kernel
theorem dX9_remembers_9 : decode cX9_remembers 9 = .ok (.aload_n 0, 1) := by decide +kernel
theorem dX9_remembers_10 : decode cX9_remembers 10 = .ok (.aload_n 0, 1) := by decide +kernel
theorem dX9_remembers_11 : decode cX9_remembers 11 = .ok (.getfield 274, 3) := by decide +kernel
theorem dX9_remembers_14 : decode cX9_remembers 14 = .ok (.iconst 1, 1) := by decide +kernel
theorem dX9_remembers_15 : decode cX9_remembers 15 = .ok (.iadd, 1) := by decide +kernel
theorem dX9_remembers_16 : decode cX9_remembers 16 = .ok (.bipush 8, 2) := by decide +kernel
theorem dX9_remembers_18 : decode cX9_remembers 18 = .ok (.irem, 1) := by decide +kernel
theorem dX9_remembers_19 : decode cX9_remembers 19 = .ok (.putfield 274, 3) := by decide +kernel
theorem dX9_remembers_22 : decode cX9_remembers 22 = .ok (.goto 13, 3) := by decide +kernel
theorem dX9_remembers_25 : decode cX9_remembers 25 = .ok (.aload_n 0, 1) := by decide +kernel
theorem dX9_remembers_26 : decode cX9_remembers 26 = .ok (.dup, 1) := by decide +kernel
theorem dX9_remembers_27 : decode cX9_remembers 27 = .ok (.getfield 247, 3) := by decide +kernel
theorem dX9_remembers_30 : decode cX9_remembers 30 = .ok (.iconst 1, 1) := by decide +kernel
theorem dX9_remembers_31 : decode cX9_remembers 31 = .ok (.iadd, 1) := by decide +kernel
theorem dX9_remembers_32 : decode cX9_remembers 32 = .ok (.putfield 247, 3) := by decide +kernel
theorem dX9_remembers_35 : decode cX9_remembers 35 = .ok (.aload_n 0, 1) := by decide +kernel
theorem dX9_remembers_36 : decode cX9_remembers 36 = .ok (.iconst 3, 1) := by decide +kernel
theorem dX9_remembers_37 : decode cX9_remembers 37 = .ok (.aload_n 0, 1) := by decide +kernel
theorem dX9_remembers_38 : decode cX9_remembers 38 = .ok (.getfield 274, 3) := by decide +kernel
theorem dX9_remembers_41 : decode cX9_remembers 41 = .ok (.aload_n 0, 1) := by decide +kernel
theorem dX9_remembers_42 : decode cX9_remembers 42 = .ok (.getfield 247, 3) := by decide +kernel
theorem dX9_remembers_45 : decode cX9_remembers 45 = .ok (.iadd, 1) := by decide +kernel
theorem dX9_remembers_46 : decode cX9_remembers 46 = .ok (.iconst 1, 1) := by decide +kernel
theorem dX9_remembers_47 : decode cX9_remembers 47 = .ok (.isub, 1) := by decide +kernel
theorem dX9_remembers_48 : decode cX9_remembers 48 = .ok (.bipush 8, 2) := by decide +kernel
theorem dX9_remembers_50 : decode cX9_remembers 50 = .ok (.irem, 1) := by decide +kernel
theorem dX9_remembers_51 : decode cX9_remembers 51 = .ok (.iadd, 1) := by decide +kernel
theorem dX9_remembers_52 : decode cX9_remembers 52 = .ok (.iconst 1, 1) := by decide +kernel
theorem dX9_remembers_53 : decode cX9_remembers 53 = .ok (.invokevirtual 240, 3) := by decide +kernel
theorem dX9_remembers_56 : decode cX9_remembers 56 = .ok (.return_, 1) := by decide +kernel
theorem dX9_back_0 : decode cX9_back 0 = .ok (.aload_n 0, 1) := by decide +kernel
theorem dX9_back_1 : decode cX9_back 1 = .ok (.getfield 247, 3) := by decide +kernel
theorem dX9_back_4 : decode cX9_back 4 = .ok (.ifCond .ne 10, 3) := by decide +kernel
theorem dX9_back_7 : decode cX9_back 7 = .ok (.aload_n 0, 1) := by decide +kernel
theorem dX9_back_8 : decode cX9_back 8 = .ok (.bipush (-3), 2) := by decide +kernel
theorem dX9_back_10 : decode cX9_back 10 = .ok (.invokevirtual 188, 3) := by decide +kernel
theorem dX9_back_13 : decode cX9_back 13 = .ok (.ireturn, 1) := by decide +kernel
theorem dX9_back_14 : decode cX9_back 14 = .ok (.aload_n 0, 1) := by decide +kernel
theorem dX9_back_15 : decode cX9_back 15 = .ok (.iconst 3, 1) := by decide +kernel
theorem dX9_back_16 : decode cX9_back 16 = .ok (.aload_n 0, 1) := by decide +kernel
theorem dX9_back_17 : decode cX9_back 17 = .ok (.getfield 274, 3) := by decide +kernel
theorem dX9_back_20 : decode cX9_back 20 = .ok (.aload_n 0, 1) := by decide +kernel
theorem dX9_back_21 : decode cX9_back 21 = .ok (.getfield 247, 3) := by decide +kernel
theorem dX9_back_24 : decode cX9_back 24 = .ok (.iadd, 1) := by decide +kernel
theorem dX9_back_25 : decode cX9_back 25 = .ok (.iconst 1, 1) := by decide +kernel
theorem dX9_back_26 : decode cX9_back 26 = .ok (.isub, 1) := by decide +kernel
theorem dX9_back_27 : decode cX9_back 27 = .ok (.bipush 8, 2) := by decide +kernel
theorem dX9_back_29 : decode cX9_back 29 = .ok (.irem, 1) := by decide +kernel
theorem dX9_back_30 : decode cX9_back 30 = .ok (.iadd, 1) := by decide +kernel
theorem dX9_back_31 : decode cX9_back 31 = .ok (.iconst 0, 1) := by decide +kernel
theorem dX9_back_32 : decode cX9_back 32 = .ok (.invokevirtual 240, 3) := by decide +kernel
theorem dX9_back_35 : decode cX9_back 35 = .ok (.aload_n 0, 1) := by decide +kernel
theorem dX9_back_36 : decode cX9_back 36 = .ok (.dup, 1) := by decide +kernel
theorem dX9_back_37 : decode cX9_back 37 = .ok (.getfield 247, 3) := by decide +kernel
theorem dX9_back_40 : decode cX9_back 40 = .ok (.iconst 1, 1) := by decide +kernel
theorem dX9_back_41 : decode cX9_back 41 = .ok (.isub, 1) := by decide +kernel
theorem dX9_back_42 : decode cX9_back 42 = .ok (.putfield 247, 3) := by decide +kernel
theorem dX9_back_45 : decode cX9_back 45 = .ok (.aload_n 0, 1) := by decide +kernel
theorem dX9_back_46 : decode cX9_back 46 = .ok (.getfield 247, 3) := by decide +kernel
theorem dX9_back_49 : decode cX9_back 49 = .ok (.ireturn, 1) := by decide +kernel
theorem dX9_image_0 : decode cX9_image 0 = .ok (.aload_n 0, 1) := by decide +kernel
theorem dX9_image_1 : decode cX9_image 1 = .ok (.iconst 1, 1) := by decide +kernel
theorem dX9_image_2 : decode cX9_image 2 = .ok (.putfield 277, 3) := by decide +kernel
theorem dX9_image_5 : decode cX9_image 5 = .ok (.aload_n 0, 1) := by decide +kernel
theorem dX9_image_6 : decode cX9_image 6 = .ok (.iconst 0, 1) := by decide +kernel
theorem dX9_image_7 : decode cX9_image 7 = .ok (.iconst 1, 1) := by decide +kernel
theorem dX9_image_8 : decode cX9_image 8 = .ok (.invokevirtual 240, 3) := by decide +kernel
theorem dX9_image_11 : decode cX9_image 11 = .ok (.aload_n 0, 1) := by decide +kernel
theorem dX9_image_12 : decode cX9_image 12 = .ok (.getfield 147, 3) := by decide +kernel
theorem dX9_image_15 : decode cX9_image 15 = .ok (.ireturn, 1) := by decide +kernel
theorem dX9_restore_0 : decode cX9_restore 0 = .ok (.aload_n 0, 1) := by decide +kernel
theorem dX9_restore_1 : decode cX9_restore 1 = .ok (.getfield 277, 3) := by decide +kernel
theorem dX9_restore_4 : decode cX9_restore 4 = .ok (.ifCond .ne 10, 3) := by decide +kernel
theorem dX9_restore_7 : decode cX9_restore 7 = .ok (.aload_n 0, 1) := by decide +kernel
theorem dX9_restore_8 : decode cX9_restore 8 = .ok (.bipush (-3), 2) := by decide +kernel
theorem dX9_restore_10 : decode cX9_restore 10 = .ok (.invokevirtual 188, 3) := by decide +kernel
theorem dX9_restore_13 : decode cX9_restore 13 = .ok (.ireturn, 1) := by decide +kernel
theorem dX9_restore_14 : decode cX9_restore 14 = .ok (.aload_n 0, 1) := by decide +kernel
theorem dX9_restore_15 : decode cX9_restore 15 = .ok (.iconst 0, 1) := by decide +kernel
theorem dX9_restore_16 : decode cX9_restore 16 = .ok (.iconst 0, 1) := by decide +kernel
theorem dX9_restore_17 : decode cX9_restore 17 = .ok (.invokevirtual 240, 3) := by decide +kernel
theorem dX9_restore_20 : decode cX9_restore 20 = .ok (.aload_n 0, 1) := by decide +kernel
theorem dX9_restore_21 : decode cX9_restore 21 = .ok (.iconst 0, 1) := by decide +kernel
theorem dX9_restore_22 : decode cX9_restore 22 = .ok (.putfield 247, 3) := by decide +kernel
theorem dX9_restore_25 : decode cX9_restore 25 = .ok (.aload_n 0, 1) := by decide +kernel
theorem dX9_restore_26 : decode cX9_restore 26 = .ok (.getfield 147, 3) := by decide +kernel
theorem dX9_restore_29 : decode cX9_restore 29 = .ok (.ireturn, 1) := by decide +kernel
theorem dX9_person_0 : decode cX9_person 0 = .ok (.aload_n 0, 1) := by decide +kernel
theorem dX9_person_1 : decode cX9_person 1 = .ok (.iload_n 1, 1) := by decide +kernel
theorem dX9_person_2 : decode cX9_person 2 = .ok (.invokevirtual 153, 3) := by decide +kernel
theorem dX9_person_5 : decode cX9_person 5 = .ok (.ifCond .ne 9, 3) := by decide +kernel
theorem dX9_person_8 : decode cX9_person 8 = .ok (.aload_n 0, 1) := by decide +kernel
theorem dX9_person_9 : decode cX9_person 9 = .ok (.iconst (-1), 1) := by decide +kernel
theorem dX9_person_10 : decode cX9_person 10 = .ok (.invokevirtual 188, 3) := by decide +kernel
theorem dX9_person_13 : decode cX9_person 13 = .ok (.ireturn, 1) := by decide +kernel
theorem dX9_person_14 : decode cX9_person 14 = .ok (.aload_n 0, 1) := by decide +kernel
theorem dX9_person_15 : decode cX9_person 15 = .ok (.getfield 13, 3) := by decide +kernel
theorem dX9_person_18 : decode cX9_person 18 = .ok (.iload_n 1, 1) := by decide +kernel
theorem dX9_person_19 : decode cX9_person 19 = .ok (.iaload, 1) := by decide +kernel
theorem dX9_person_20 : decode cX9_person 20 = .ok (.istore_n 3, 1) := by decide +kernel
theorem dX9_person_21 : decode cX9_person 21 = .ok (.aload_n 0, 1) := by decide +kernel
theorem dX9_person_22 : decode cX9_person 22 = .ok (.getfield 16, 3) := by decide +kernel
theorem dX9_person_25 : decode cX9_person 25 = .ok (.iload_n 1, 1) := by decide +kernel
theorem dX9_person_26 : decode cX9_person 26 = .ok (.iaload, 1) := by decide +kernel
theorem dX9_person_27 : decode cX9_person 27 = .ok (.istore 4, 2) := by decide +kernel
theorem dX9_person_29 : decode cX9_person 29 = .ok (.iload_n 2, 1) := by decide +kernel
theorem dX9_person_30 : decode cX9_person 30 = .ok (.tableswitch 114 0 8 #[50, 52, 55, 62, 72, 82, 95, 102, 109], 50) := by decide +kernel
theorem dX9_person_80 : decode cX9_person 80 = .ok (.iload_n 3, 1) := by decide +kernel
theorem dX9_person_81 : decode cX9_person 81 = .ok (.ireturn, 1) := by decide +kernel
theorem dX9_person_82 : decode cX9_person 82 = .ok (.iload 4, 2) := by decide +kernel
theorem dX9_person_84 : decode cX9_person 84 = .ok (.ireturn, 1) := by decide +kernel
theorem dX9_person_85 : decode cX9_person 85 = .ok (.aload_n 0, 1) := by decide +kernel
theorem dX9_person_86 : decode cX9_person 86 = .ok (.getfield 19, 3) := by decide +kernel
theorem dX9_person_89 : decode cX9_person 89 = .ok (.iload_n 1, 1) := by decide +kernel
theorem dX9_person_90 : decode cX9_person 90 = .ok (.iaload, 1) := by decide +kernel
theorem dX9_person_91 : decode cX9_person 91 = .ok (.ireturn, 1) := by decide +kernel
theorem dX9_person_92 : decode cX9_person 92 = .ok (.aload_n 0, 1) := by decide +kernel
theorem dX9_person_93 : decode cX9_person 93 = .ok (.getfield 34, 3) := by decide +kernel
theorem dX9_person_96 : decode cX9_person 96 = .ok (.iload_n 1, 1) := by decide +kernel
theorem dX9_person_97 : decode cX9_person 97 = .ok (.laload, 1) := by decide +kernel
theorem dX9_person_98 : decode cX9_person 98 = .ok (.invokestatic 113, 3) := by decide +kernel
theorem dX9_person_101 : decode cX9_person 101 = .ok (.ireturn, 1) := by decide +kernel
theorem dX9_person_102 : decode cX9_person 102 = .ok (.aload_n 0, 1) := by decide +kernel
theorem dX9_person_103 : decode cX9_person 103 = .ok (.getfield 38, 3) := by decide +kernel
theorem dX9_person_106 : decode cX9_person 106 = .ok (.iload_n 1, 1) := by decide +kernel
theorem dX9_person_107 : decode cX9_person 107 = .ok (.laload, 1) := by decide +kernel
theorem dX9_person_108 : decode cX9_person 108 = .ok (.invokestatic 113, 3) := by decide +kernel
theorem dX9_person_111 : decode cX9_person 111 = .ok (.ireturn, 1) := by decide +kernel
theorem dX9_person_112 : decode cX9_person 112 = .ok (.iload_n 3, 1) := by decide +kernel
theorem dX9_person_113 : decode cX9_person 113 = .ok (.iload 4, 2) := by decide +kernel
theorem dX9_person_115 : decode cX9_person 115 = .ok (.aload_n 0, 1) := by decide +kernel
theorem dX9_person_116 : decode cX9_person 116 = .ok (.getfield 147, 3) := by decide +kernel
theorem dX9_person_119 : decode cX9_person 119 = .ok (.iconst 1, 1) := by decide +kernel
theorem dX9_person_120 : decode cX9_person 120 = .ok (.iadd, 1) := by decide +kernel
theorem dX9_person_121 : decode cX9_person 121 = .ok (.invokestatic 162, 3) := by decide +kernel
theorem dX9_person_124 : decode cX9_person 124 = .ok (.ireturn, 1) := by decide +kernel
theorem dX9_person_125 : decode cX9_person 125 = .ok (.iload_n 3, 1) := by decide +kernel
theorem dX9_person_126 : decode cX9_person 126 = .ok (.iload 4, 2) := by decide +kernel
theorem dX9_person_128 : decode cX9_person 128 = .ok (.invokestatic 166, 3) := by decide +kernel
theorem dX9_person_131 : decode cX9_person 131 = .ok (.ireturn, 1) := by decide +kernel
theorem dX9_person_132 : decode cX9_person 132 = .ok (.iload_n 3, 1) := by decide +kernel
theorem dX9_person_133 : decode cX9_person 133 = .ok (.iload 4, 2) := by decide +kernel
theorem dX9_person_135 : decode cX9_person 135 = .ok (.invokestatic 150, 3) := by decide +kernel
theorem dX9_person_138 : decode cX9_person 138 = .ok (.ireturn, 1) := by decide +kernel
theorem dX9_person_139 : decode cX9_person 139 = .ok (.iload_n 3, 1) := by decide +kernel
theorem dX9_person_140 : decode cX9_person 140 = .ok (.invokestatic 137, 3) := by decide +kernel
theorem dX9_person_143 : decode cX9_person 143 = .ok (.ireturn, 1) := by decide +kernel
theorem dX9_person_144 : decode cX9_person 144 = .ok (.aload_n 0, 1) := by decide +kernel
theorem dX9_person_145 : decode cX9_person 145 = .ok (.bipush (-2), 2) := by decide +kernel
theorem dX9_person_147 : decode cX9_person 147 = .ok (.invokevirtual 188, 3) := by decide +kernel
theorem dX9_person_150 : decode cX9_person 150 = .ok (.ireturn, 1) := by decide +kernel
theorem dX9_notSecret_0 : decode cX9_notSecret 0 = .ok (.aload_n 0, 1) := by decide +kernel
theorem dX9_notSecret_1 : decode cX9_notSecret 1 = .ok (.iload_n 1, 1) := by decide +kernel
theorem dX9_notSecret_2 : decode cX9_notSecret 2 = .ok (.invokevirtual 214, 3) := by decide +kernel
theorem dX9_notSecret_5 : decode cX9_notSecret 5 = .ok (.ifCond .ne 7, 3) := by decide +kernel
theorem dX9_notSecret_8 : decode cX9_notSecret 8 = .ok (.iconst (-1), 1) := by decide +kernel
theorem dX9_notSecret_9 : decode cX9_notSecret 9 = .ok (.goto 10, 3) := by decide +kernel
theorem dX9_notSecret_12 : decode cX9_notSecret 12 = .ok (.iload_n 2, 1) := by decide +kernel
theorem dX9_notSecret_13 : decode cX9_notSecret 13 = .ok (.iconst 0, 1) := by decide +kernel
theorem dX9_notSecret_14 : decode cX9_notSecret 14 = .ok (.bipush 39, 2) := by decide +kernel
theorem dX9_notSecret_16 : decode cX9_notSecret 16 = .ok (.invokestatic 182, 3) := by decide +kernel
theorem dX9_notSecret_19 : decode cX9_notSecret 19 = .ok (.ireturn, 1) := by decide +kernel
theorem dX9_knows_0 : decode cX9_knows 0 = .ok (.aload_n 0, 1) := by decide +kernel
theorem dX9_knows_1 : decode cX9_knows 1 = .ok (.iload_n 1, 1) := by decide +kernel
theorem dX9_knows_2 : decode cX9_knows 2 = .ok (.iload_n 2, 1) := by decide +kernel
theorem dX9_knows_3 : decode cX9_knows 3 = .ok (.invokevirtual 280, 3) := by decide +kernel
theorem dX9_knows_6 : decode cX9_knows 6 = .ok (.istore_n 3, 1) := by decide +kernel
theorem dX9_knows_7 : decode cX9_knows 7 = .ok (.iload_n 3, 1) := by decide +kernel
theorem dX9_knows_8 : decode cX9_knows 8 = .ok (.ifCond .eq 11, 3) := by decide +kernel
theorem dX9_knows_11 : decode cX9_knows 11 = .ok (.aload_n 0, 1) := by decide +kernel
theorem dX9_knows_12 : decode cX9_knows 12 = .ok (.iload_n 3, 1) := by decide +kernel
theorem dX9_knows_13 : decode cX9_knows 13 = .ok (.invokevirtual 188, 3) := by decide +kernel
theorem dX9_knows_16 : decode cX9_knows 16 = .ok (.goto 20, 3) := by decide +kernel
theorem dX9_knows_19 : decode cX9_knows 19 = .ok (.aload_n 0, 1) := by decide +kernel
theorem dX9_knows_20 : decode cX9_knows 20 = .ok (.iload_n 1, 1) := by decide +kernel
theorem dX9_knows_21 : decode cX9_knows 21 = .ok (.invokevirtual 283, 3) := by decide +kernel
theorem dX9_knows_24 : decode cX9_knows 24 = .ok (.iload_n 2, 1) := by decide +kernel
theorem dX9_knows_25 : decode cX9_knows 25 = .ok (.invokestatic 75, 3) := by decide +kernel
theorem dX9_knows_28 : decode cX9_knows 28 = .ok (.ifCond .eq 7, 3) := by decide +kernel
theorem dX9_knows_31 : decode cX9_knows 31 = .ok (.iconst 1, 1) := by decide +kernel
theorem dX9_knows_32 : decode cX9_knows 32 = .ok (.goto 4, 3) := by decide +kernel
theorem dX9_knows_35 : decode cX9_knows 35 = .ok (.iconst 0, 1) := by decide +kernel
theorem dX9_knows_36 : decode cX9_knows 36 = .ok (.ireturn, 1) := by decide +kernel
theorem dX9_above_0 : decode cX9_above 0 = .ok (.aload_n 0, 1) := by decide +kernel
theorem dX9_above_1 : decode cX9_above 1 = .ok (.iload_n 1, 1) := by decide +kernel
theorem dX9_above_2 : decode cX9_above 2 = .ok (.iload_n 2, 1) := by decide +kernel
theorem dX9_above_3 : decode cX9_above 3 = .ok (.invokevirtual 280, 3) := by decide +kernel
theorem dX9_above_6 : decode cX9_above 6 = .ok (.istore_n 3, 1) := by decide +kernel
theorem dX9_above_7 : decode cX9_above 7 = .ok (.iload_n 3, 1) := by decide +kernel
theorem dX9_above_8 : decode cX9_above 8 = .ok (.ifCond .eq 11, 3) := by decide +kernel
theorem dX9_above_11 : decode cX9_above 11 = .ok (.aload_n 0, 1) := by decide +kernel
theorem dX9_above_12 : decode cX9_above 12 = .ok (.iload_n 3, 1) := by decide +kernel
theorem dX9_above_13 : decode cX9_above 13 = .ok (.invokevirtual 188, 3) := by decide +kernel
theorem dX9_above_16 : decode cX9_above 16 = .ok (.goto 12, 3) := by decide +kernel
theorem dX9_above_19 : decode cX9_above 19 = .ok (.aload_n 0, 1) := by decide +kernel
theorem dX9_above_20 : decode cX9_above 20 = .ok (.iload_n 1, 1) := by decide +kernel
theorem dX9_above_21 : decode cX9_above 21 = .ok (.invokevirtual 283, 3) := by decide +kernel
theorem dX9_above_24 : decode cX9_above 24 = .ok (.iload_n 2, 1) := by decide +kernel
theorem dX9_above_25 : decode cX9_above 25 = .ok (.invokestatic 99, 3) := by decide +kernel
theorem dX9_above_28 : decode cX9_above 28 = .ok (.ireturn, 1) := by decide +kernel
theorem dX9_letter_0 : decode cX9_letter 0 = .ok (.iload_n 1, 1) := by decide +kernel
theorem dX9_letter_1 : decode cX9_letter 1 = .ok (.iconst 0, 1) := by decide +kernel
theorem dX9_letter_2 : decode cX9_letter 2 = .ok (.aload_n 0, 1) := by decide +kernel
theorem dX9_letter_3 : decode cX9_letter 3 = .ok (.getfield 134, 3) := by decide +kernel
theorem dX9_letter_6 : decode cX9_letter 6 = .ok (.iconst 1, 1) := by decide +kernel
theorem dX9_letter_7 : decode cX9_letter 7 = .ok (.isub, 1) := by decide +kernel
theorem dX9_letter_8 : decode cX9_letter 8 = .ok (.invokestatic 82, 3) := by decide +kernel
theorem dX9_letter_11 : decode cX9_letter 11 = .ok (.ifCond .ne 9, 3) := by decide +kernel
theorem dX9_letter_14 : decode cX9_letter 14 = .ok (.aload_n 0, 1) := by decide +kernel
theorem dX9_letter_15 : decode cX9_letter 15 = .ok (.iconst (-1), 1) := by decide +kernel
theorem dX9_letter_16 : decode cX9_letter 16 = .ok (.invokevirtual 188, 3) := by decide +kernel
theorem dX9_letter_19 : decode cX9_letter 19 = .ok (.ireturn, 1) := by decide +kernel
theorem dX9_letter_20 : decode cX9_letter 20 = .ok (.iload_n 2, 1) := by decide +kernel
theorem dX9_letter_21 : decode cX9_letter 21 = .ok (.tableswitch 102 0 6 #[43, 50, 57, 64, 71, 81, 92], 43) := by decide +kernel
theorem dX9_letter_64 : decode cX9_letter 64 = .ok (.aload_n 0, 1) := by decide +kernel
theorem dX9_letter_65 : decode cX9_letter 65 = .ok (.getfield 22, 3) := by decide +kernel
theorem dX9_letter_68 : decode cX9_letter 68 = .ok (.iload_n 1, 1) := by decide +kernel
theorem dX9_letter_69 : decode cX9_letter 69 = .ok (.iaload, 1) := by decide +kernel
theorem dX9_letter_70 : decode cX9_letter 70 = .ok (.ireturn, 1) := by decide +kernel
theorem dX9_letter_71 : decode cX9_letter 71 = .ok (.aload_n 0, 1) := by decide +kernel
theorem dX9_letter_72 : decode cX9_letter 72 = .ok (.getfield 25, 3) := by decide +kernel
theorem dX9_letter_75 : decode cX9_letter 75 = .ok (.iload_n 1, 1) := by decide +kernel
theorem dX9_letter_76 : decode cX9_letter 76 = .ok (.iaload, 1) := by decide +kernel
theorem dX9_letter_77 : decode cX9_letter 77 = .ok (.ireturn, 1) := by decide +kernel
theorem dX9_letter_78 : decode cX9_letter 78 = .ok (.aload_n 0, 1) := by decide +kernel
theorem dX9_letter_79 : decode cX9_letter 79 = .ok (.getfield 28, 3) := by decide +kernel
theorem dX9_letter_82 : decode cX9_letter 82 = .ok (.iload_n 1, 1) := by decide +kernel
theorem dX9_letter_83 : decode cX9_letter 83 = .ok (.iaload, 1) := by decide +kernel
theorem dX9_letter_84 : decode cX9_letter 84 = .ok (.ireturn, 1) := by decide +kernel
theorem dX9_letter_85 : decode cX9_letter 85 = .ok (.aload_n 0, 1) := by decide +kernel
theorem dX9_letter_86 : decode cX9_letter 86 = .ok (.getfield 31, 3) := by decide +kernel
theorem dX9_letter_89 : decode cX9_letter 89 = .ok (.iload_n 1, 1) := by decide +kernel
theorem dX9_letter_90 : decode cX9_letter 90 = .ok (.iaload, 1) := by decide +kernel
theorem dX9_letter_91 : decode cX9_letter 91 = .ok (.ireturn, 1) := by decide +kernel
theorem dX9_letter_92 : decode cX9_letter 92 = .ok (.aload_n 0, 1) := by decide +kernel
theorem dX9_letter_93 : decode cX9_letter 93 = .ok (.getfield 41, 3) := by decide +kernel
theorem dX9_letter_96 : decode cX9_letter 96 = .ok (.iload_n 1, 1) := by decide +kernel
theorem dX9_letter_97 : decode cX9_letter 97 = .ok (.laload, 1) := by decide +kernel
theorem dX9_letter_98 : decode cX9_letter 98 = .ok (.invokestatic 113, 3) := by decide +kernel
theorem dX9_letter_101 : decode cX9_letter 101 = .ok (.ireturn, 1) := by decide +kernel
theorem dX9_letter_102 : decode cX9_letter 102 = .ok (.aload_n 0, 1) := by decide +kernel
theorem dX9_letter_103 : decode cX9_letter 103 = .ok (.getfield 41, 3) := by decide +kernel
theorem dX9_letter_106 : decode cX9_letter 106 = .ok (.iload_n 1, 1) := by decide +kernel
theorem dX9_letter_107 : decode cX9_letter 107 = .ok (.laload, 1) := by decide +kernel
theorem dX9_letter_108 : decode cX9_letter 108 = .ok (.iconst 0, 1) := by decide +kernel
theorem dX9_letter_109 : decode cX9_letter 109 = .ok (.invokestatic 99, 3) := by decide +kernel
theorem dX9_letter_112 : decode cX9_letter 112 = .ok (.ireturn, 1) := by decide +kernel
theorem dX9_letter_113 : decode cX9_letter 113 = .ok (.aload_n 0, 1) := by decide +kernel
theorem dX9_letter_114 : decode cX9_letter 114 = .ok (.getfield 41, 3) := by decide +kernel
theorem dX9_letter_117 : decode cX9_letter 117 = .ok (.iload_n 1, 1) := by decide +kernel
theorem dX9_letter_118 : decode cX9_letter 118 = .ok (.laload, 1) := by decide +kernel
theorem dX9_letter_119 : decode cX9_letter 119 = .ok (.invokestatic 144, 3) := by decide +kernel
theorem dX9_letter_122 : decode cX9_letter 122 = .ok (.ireturn, 1) := by decide +kernel
theorem dX9_letter_123 : decode cX9_letter 123 = .ok (.aload_n 0, 1) := by decide +kernel
theorem dX9_letter_124 : decode cX9_letter 124 = .ok (.bipush (-2), 2) := by decide +kernel
theorem dX9_letter_126 : decode cX9_letter 126 = .ok (.invokevirtual 188, 3) := by decide +kernel
theorem dX9_letter_129 : decode cX9_letter 129 = .ok (.ireturn, 1) := by decide +kernel
theorem dX9_comes_0 : decode cX9_comes 0 = .ok (.iload_n 1, 1) := by decide +kernel
theorem dX9_comes_1 : decode cX9_comes 1 = .ok (.iconst 0, 1) := by decide +kernel
theorem dX9_comes_2 : decode cX9_comes 2 = .ok (.bipush 7, 2) := by decide +kernel
theorem dX9_comes_4 : decode cX9_comes 4 = .ok (.invokestatic 82, 3) := by decide +kernel
theorem dX9_comes_7 : decode cX9_comes 7 = .ok (.ifCond .ne 8, 3) := by decide +kernel
theorem dX9_comes_10 : decode cX9_comes 10 = .ok (.bipush (-2), 2) := by decide +kernel
theorem dX9_comes_12 : decode cX9_comes 12 = .ok (.goto 10, 3) := by decide +kernel
theorem dX9_comes_15 : decode cX9_comes 15 = .ok (.iload_n 2, 1) := by decide +kernel
theorem dX9_comes_16 : decode cX9_comes 16 = .ok (.iconst 0, 1) := by decide +kernel
theorem dX9_comes_17 : decode cX9_comes 17 = .ok (.bipush 9, 2) := by decide +kernel
theorem dX9_comes_19 : decode cX9_comes 19 = .ok (.invokestatic 182, 3) := by decide +kernel
theorem dX9_comes_22 : decode cX9_comes 22 = .ok (.istore_n 3, 1) := by decide +kernel
theorem dX9_comes_23 : decode cX9_comes 23 = .ok (.iload_n 3, 1) := by decide +kernel
theorem dX9_comes_24 : decode cX9_comes 24 = .ok (.ifCond .ne 15, 3) := by decide +kernel
theorem dX9_comes_27 : decode cX9_comes 27 = .ok (.aload_n 0, 1) := by decide +kernel
theorem dX9_comes_28 : decode cX9_comes 28 = .ok (.getfield 79, 3) := by decide +kernel
theorem dX9_comes_31 : decode cX9_comes 31 = .ok (.bipush 6, 2) := by decide +kernel
theorem dX9_comes_33 : decode cX9_comes 33 = .ok (.if_icmp .ne 6, 3) := by decide +kernel
theorem dX9_comes_36 : decode cX9_comes 36 = .ok (.bipush (-6), 2) := by decide +kernel
theorem dX9_comes_38 : decode cX9_comes 38 = .ok (.istore_n 3, 1) := by decide +kernel
theorem dX9_comes_39 : decode cX9_comes 39 = .ok (.iload_n 3, 1) := by decide +kernel
theorem dX9_comes_40 : decode cX9_comes 40 = .ok (.ifCond .eq 9, 3) := by decide +kernel
theorem dX9_comes_43 : decode cX9_comes 43 = .ok (.aload_n 0, 1) := by decide +kernel
theorem dX9_comes_44 : decode cX9_comes 44 = .ok (.iload_n 3, 1) := by decide +kernel
theorem dX9_comes_45 : decode cX9_comes 45 = .ok (.invokevirtual 188, 3) := by decide +kernel
theorem dX9_comes_48 : decode cX9_comes 48 = .ok (.ireturn, 1) := by decide +kernel
theorem dX9_comes_49 : decode cX9_comes 49 = .ok (.aload_n 0, 1) := by decide +kernel
theorem dX9_comes_50 : decode cX9_comes 50 = .ok (.iload_n 1, 1) := by decide +kernel
theorem dX9_comes_51 : decode cX9_comes 51 = .ok (.iload_n 2, 1) := by decide +kernel
theorem dX9_comes_52 : decode cX9_comes 52 = .ok (.invokevirtual 210, 3) := by decide +kernel
theorem dX9_comes_55 : decode cX9_comes 55 = .ok (.aload_n 0, 1) := by decide +kernel
theorem dX9_comes_56 : decode cX9_comes 56 = .ok (.iconst 0, 1) := by decide +kernel
theorem dX9_comes_57 : decode cX9_comes 57 = .ok (.putfield 247, 3) := by decide +kernel
theorem dX9_comes_60 : decode cX9_comes 60 = .ok (.aload_n 0, 1) := by decide +kernel
theorem dX9_comes_61 : decode cX9_comes 61 = .ok (.getfield 79, 3) := by decide +kernel
theorem dX9_comes_64 : decode cX9_comes 64 = .ok (.iconst 1, 1) := by decide +kernel
theorem dX9_comes_65 : decode cX9_comes 65 = .ok (.isub, 1) := by decide +kernel
theorem dX9_comes_66 : decode cX9_comes 66 = .ok (.ireturn, 1) := by decide +kernel
theorem dX9_friend_0 : decode cX9_friend 0 = .ok (.aload_n 0, 1) := by decide +kernel
theorem dX9_friend_1 : decode cX9_friend 1 = .ok (.iload_n 1, 1) := by decide +kernel
theorem dX9_friend_2 : decode cX9_friend 2 = .ok (.invokevirtual 153, 3) := by decide +kernel
theorem dX9_friend_5 : decode cX9_friend 5 = .ok (.ifCond .ne 7, 3) := by decide +kernel
theorem dX9_friend_8 : decode cX9_friend 8 = .ok (.iconst (-1), 1) := by decide +kernel
theorem dX9_friend_9 : decode cX9_friend 9 = .ok (.goto 9, 3) := by decide +kernel
theorem dX9_friend_12 : decode cX9_friend 12 = .ok (.iload_n 2, 1) := by decide +kernel
theorem dX9_friend_13 : decode cX9_friend 13 = .ok (.iconst 0, 1) := by decide +kernel
theorem dX9_friend_14 : decode cX9_friend 14 = .ok (.iconst 5, 1) := by decide +kernel
theorem dX9_friend_15 : decode cX9_friend 15 = .ok (.invokestatic 182, 3) := by decide +kernel
theorem dX9_friend_18 : decode cX9_friend 18 = .ok (.istore_n 3, 1) := by decide +kernel
theorem dX9_friend_19 : decode cX9_friend 19 = .ok (.iload_n 3, 1) := by decide +kernel
theorem dX9_friend_20 : decode cX9_friend 20 = .ok (.ifCond .eq 9, 3) := by decide +kernel
theorem dX9_friend_23 : decode cX9_friend 23 = .ok (.aload_n 0, 1) := by decide +kernel
theorem dX9_friend_24 : decode cX9_friend 24 = .ok (.iload_n 3, 1) := by decide +kernel
theorem dX9_friend_25 : decode cX9_friend 25 = .ok (.invokevirtual 188, 3) := by decide +kernel
theorem dX9_friend_28 : decode cX9_friend 28 = .ok (.ireturn, 1) := by decide +kernel
theorem dX9_friend_29 : decode cX9_friend 29 = .ok (.aload_n 0, 1) := by decide +kernel
theorem dX9_friend_30 : decode cX9_friend 30 = .ok (.invokevirtual 286, 3) := by decide +kernel
theorem dX9_friend_33 : decode cX9_friend 33 = .ok (.aload_n 0, 1) := by decide +kernel
theorem dX9_friend_34 : decode cX9_friend 34 = .ok (.getfield 19, 3) := by decide +kernel
theorem dX9_friend_37 : decode cX9_friend 37 = .ok (.iload_n 1, 1) := by decide +kernel
theorem dX9_friend_38 : decode cX9_friend 38 = .ok (.iaload, 1) := by decide +kernel
theorem dX9_friend_39 : decode cX9_friend 39 = .ok (.istore 4, 2) := by decide +kernel
theorem dX9_friend_41 : decode cX9_friend 41 = .ok (.aload_n 0, 1) := by decide +kernel
theorem dX9_friend_42 : decode cX9_friend 42 = .ok (.getfield 19, 3) := by decide +kernel
theorem dX9_friend_45 : decode cX9_friend 45 = .ok (.iload_n 1, 1) := by decide +kernel
theorem dX9_friend_46 : decode cX9_friend 46 = .ok (.iload_n 2, 1) := by decide +kernel
theorem dX9_friend_47 : decode cX9_friend 47 = .ok (.iastore, 1) := by decide +kernel
theorem dX9_friend_48 : decode cX9_friend 48 = .ok (.iload 4, 2) := by decide +kernel
theorem dX9_friend_50 : decode cX9_friend 50 = .ok (.ireturn, 1) := by decide +kernel
theorem dX9_tells_0 : decode cX9_tells 0 = .ok (.aload_n 0, 1) := by decide +kernel
theorem dX9_tells_1 : decode cX9_tells 1 = .ok (.iload_n 1, 1) := by decide +kernel
theorem dX9_tells_2 : decode cX9_tells 2 = .ok (.iload_n 2, 1) := by decide +kernel
theorem dX9_tells_3 : decode cX9_tells 3 = .ok (.invokevirtual 280, 3) := by decide +kernel
theorem dX9_tells_6 : decode cX9_tells 6 = .ok (.istore_n 3, 1) := by decide +kernel
theorem dX9_tells_7 : decode cX9_tells 7 = .ok (.iload_n 3, 1) := by decide +kernel
theorem dX9_tells_8 : decode cX9_tells 8 = .ok (.ifCond .eq 9, 3) := by decide +kernel
theorem dX9_tells_11 : decode cX9_tells 11 = .ok (.aload_n 0, 1) := by decide +kernel
theorem dX9_tells_12 : decode cX9_tells 12 = .ok (.iload_n 3, 1) := by decide +kernel
theorem dX9_tells_13 : decode cX9_tells 13 = .ok (.invokevirtual 188, 3) := by decide +kernel
theorem dX9_tells_16 : decode cX9_tells 16 = .ok (.ireturn, 1) := by decide +kernel
theorem dX9_tells_17 : decode cX9_tells 17 = .ok (.aload_n 0, 1) := by decide +kernel
theorem dX9_tells_18 : decode cX9_tells 18 = .ok (.invokevirtual 286, 3) := by decide +kernel
theorem dX9_tells_21 : decode cX9_tells 21 = .ok (.aload_n 0, 1) := by decide +kernel
theorem dX9_tells_22 : decode cX9_tells 22 = .ok (.iload_n 1, 1) := by decide +kernel
theorem dX9_tells_23 : decode cX9_tells 23 = .ok (.invokevirtual 283, 3) := by decide +kernel
theorem dX9_tells_26 : decode cX9_tells 26 = .ok (.iload_n 2, 1) := by decide +kernel
theorem dX9_tells_27 : decode cX9_tells 27 = .ok (.invokestatic 75, 3) := by decide +kernel
theorem dX9_tells_30 : decode cX9_tells 30 = .ok (.ifCond .eq 7, 3) := by decide +kernel
theorem dX9_tells_33 : decode cX9_tells 33 = .ok (.iconst 0, 1) := by decide +kernel
theorem dX9_tells_34 : decode cX9_tells 34 = .ok (.goto 4, 3) := by decide +kernel
theorem dX9_tells_37 : decode cX9_tells 37 = .ok (.iconst 1, 1) := by decide +kernel
theorem dX9_tells_38 : decode cX9_tells 38 = .ok (.istore 4, 2) := by decide +kernel
theorem dX9_tells_40 : decode cX9_tells 40 = .ok (.aload_n 0, 1) := by decide +kernel
theorem dX9_tells_41 : decode cX9_tells 41 = .ok (.iload_n 1, 1) := by decide +kernel
theorem dX9_tells_42 : decode cX9_tells 42 = .ok (.iload_n 2, 1) := by decide +kernel
theorem dX9_tells_43 : decode cX9_tells 43 = .ok (.invokevirtual 227, 3) := by decide +kernel
theorem dX9_tells_46 : decode cX9_tells 46 = .ok (.pop, 1) := by decide +kernel
theorem dX9_tells_47 : decode cX9_tells 47 = .ok (.iload 4, 2) := by decide +kernel
theorem dX9_tells_49 : decode cX9_tells 49 = .ok (.ireturn, 1) := by decide +kernel
theorem dX9_forbids_0 : decode cX9_forbids 0 = .ok (.iload_n 1, 1) := by decide +kernel
theorem dX9_forbids_1 : decode cX9_forbids 1 = .ok (.iconst 0, 1) := by decide +kernel
theorem dX9_forbids_2 : decode cX9_forbids 2 = .ok (.bipush 39, 2) := by decide +kernel
theorem dX9_forbids_4 : decode cX9_forbids 4 = .ok (.invokestatic 182, 3) := by decide +kernel
theorem dX9_forbids_7 : decode cX9_forbids 7 = .ok (.istore_n 2, 1) := by decide +kernel
theorem dX9_forbids_8 : decode cX9_forbids 8 = .ok (.iload_n 2, 1) := by decide +kernel
theorem dX9_forbids_9 : decode cX9_forbids 9 = .ok (.ifCond .eq 9, 3) := by decide +kernel
theorem dX9_forbids_12 : decode cX9_forbids 12 = .ok (.aload_n 0, 1) := by decide +kernel
theorem dX9_forbids_13 : decode cX9_forbids 13 = .ok (.iload_n 2, 1) := by decide +kernel
theorem dX9_forbids_14 : decode cX9_forbids 14 = .ok (.invokevirtual 188, 3) := by decide +kernel
theorem dX9_forbids_17 : decode cX9_forbids 17 = .ok (.ireturn, 1) := by decide +kernel
theorem dX9_forbids_18 : decode cX9_forbids 18 = .ok (.aload_n 0, 1) := by decide +kernel
theorem dX9_forbids_19 : decode cX9_forbids 19 = .ok (.invokevirtual 286, 3) := by decide +kernel
theorem dX9_forbids_22 : decode cX9_forbids 22 = .ok (.aload_n 0, 1) := by decide +kernel
theorem dX9_forbids_23 : decode cX9_forbids 23 = .ok (.dup, 1) := by decide +kernel
theorem dX9_forbids_24 : decode cX9_forbids 24 = .ok (.getfield 94, 3) := by decide +kernel
theorem dX9_forbids_27 : decode cX9_forbids 27 = .ok (.lconst 1, 1) := by decide +kernel
theorem dX9_forbids_28 : decode cX9_forbids 28 = .ok (.iload_n 1, 1) := by decide +kernel
theorem dX9_forbids_29 : decode cX9_forbids 29 = .ok (.lshl, 1) := by decide +kernel
theorem dX9_forbids_30 : decode cX9_forbids 30 = .ok (.lxor, 1) := by decide +kernel
theorem dX9_forbids_31 : decode cX9_forbids 31 = .ok (.putfield 94, 3) := by decide +kernel
theorem dX9_forbids_34 : decode cX9_forbids 34 = .ok (.aload_n 0, 1) := by decide +kernel
theorem dX9_forbids_35 : decode cX9_forbids 35 = .ok (.getfield 94, 3) := by decide +kernel
theorem dX9_forbids_38 : decode cX9_forbids 38 = .ok (.iload_n 1, 1) := by decide +kernel
theorem dX9_forbids_39 : decode cX9_forbids 39 = .ok (.invokestatic 75, 3) := by decide +kernel
theorem dX9_forbids_42 : decode cX9_forbids 42 = .ok (.ifCond .eq 7, 3) := by decide +kernel
theorem dX9_forbids_45 : decode cX9_forbids 45 = .ok (.iconst 1, 1) := by decide +kernel
theorem dX9_forbids_46 : decode cX9_forbids 46 = .ok (.goto 4, 3) := by decide +kernel
theorem dX9_forbids_49 : decode cX9_forbids 49 = .ok (.iconst 0, 1) := by decide +kernel
theorem dX9_forbids_50 : decode cX9_forbids 50 = .ok (.ireturn, 1) := by decide +kernel
theorem dX9_rubber_0 : decode cX9_rubber 0 = .ok (.iload_n 1, 1) := by decide +kernel
theorem dX9_rubber_1 : decode cX9_rubber 1 = .ok (.iconst 0, 1) := by decide +kernel
theorem dX9_rubber_2 : decode cX9_rubber 2 = .ok (.bipush 18, 2) := by decide +kernel
theorem dX9_rubber_4 : decode cX9_rubber 4 = .ok (.invokestatic 182, 3) := by decide +kernel
theorem dX9_rubber_7 : decode cX9_rubber 7 = .ok (.istore_n 2, 1) := by decide +kernel
theorem dX9_rubber_8 : decode cX9_rubber 8 = .ok (.iload_n 2, 1) := by decide +kernel
theorem dX9_rubber_9 : decode cX9_rubber 9 = .ok (.ifCond .eq 9, 3) := by decide +kernel
theorem dX9_rubber_12 : decode cX9_rubber 12 = .ok (.aload_n 0, 1) := by decide +kernel
theorem dX9_rubber_13 : decode cX9_rubber 13 = .ok (.iload_n 2, 1) := by decide +kernel
theorem dX9_rubber_14 : decode cX9_rubber 14 = .ok (.invokevirtual 188, 3) := by decide +kernel
theorem dX9_rubber_17 : decode cX9_rubber 17 = .ok (.ireturn, 1) := by decide +kernel
theorem dX9_rubber_18 : decode cX9_rubber 18 = .ok (.aload_n 0, 1) := by decide +kernel
theorem dX9_rubber_19 : decode cX9_rubber 19 = .ok (.invokevirtual 286, 3) := by decide +kernel
theorem dX9_rubber_22 : decode cX9_rubber 22 = .ok (.aload_n 0, 1) := by decide +kernel
theorem dX9_rubber_23 : decode cX9_rubber 23 = .ok (.getfield 68, 3) := by decide +kernel
theorem dX9_rubber_26 : decode cX9_rubber 26 = .ok (.istore_n 3, 1) := by decide +kernel
theorem dX9_rubber_27 : decode cX9_rubber 27 = .ok (.aload_n 0, 1) := by decide +kernel
theorem dX9_rubber_28 : decode cX9_rubber 28 = .ok (.iload_n 1, 1) := by decide +kernel
theorem dX9_rubber_29 : decode cX9_rubber 29 = .ok (.putfield 68, 3) := by decide +kernel
theorem dX9_rubber_32 : decode cX9_rubber 32 = .ok (.iload_n 3, 1) := by decide +kernel
theorem dX9_rubber_33 : decode cX9_rubber 33 = .ok (.ireturn, 1) := by decide +kernel
theorem dX9_recalls_0 : decode cX9_recalls 0 = .ok (.aload_n 0, 1) := by decide +kernel
theorem dX9_recalls_1 : decode cX9_recalls 1 = .ok (.iload_n 1, 1) := by decide +kernel
theorem dX9_recalls_2 : decode cX9_recalls 2 = .ok (.invokevirtual 153, 3) := by decide +kernel
theorem dX9_recalls_5 : decode cX9_recalls 5 = .ok (.ifCond .ne 9, 3) := by decide +kernel
theorem dX9_recalls_8 : decode cX9_recalls 8 = .ok (.aload_n 0, 1) := by decide +kernel
theorem dX9_recalls_9 : decode cX9_recalls 9 = .ok (.iconst (-1), 1) := by decide +kernel
theorem dX9_recalls_10 : decode cX9_recalls 10 = .ok (.invokevirtual 188, 3) := by decide +kernel
theorem dX9_recalls_13 : decode cX9_recalls 13 = .ok (.ireturn, 1) := by decide +kernel
theorem dX9_recalls_14 : decode cX9_recalls 14 = .ok (.aload_n 0, 1) := by decide +kernel
theorem dX9_recalls_15 : decode cX9_recalls 15 = .ok (.invokevirtual 286, 3) := by decide +kernel
theorem dX9_recalls_18 : decode cX9_recalls 18 = .ok (.iconst 0, 1) := by decide +kernel
theorem dX9_recalls_19 : decode cX9_recalls 19 = .ok (.istore_n 2, 1) := by decide +kernel
theorem dX9_recalls_20 : decode cX9_recalls 20 = .ok (.aload_n 0, 1) := by decide +kernel
theorem dX9_recalls_21 : decode cX9_recalls 21 = .ok (.getfield 134, 3) := by decide +kernel
theorem dX9_recalls_24 : decode cX9_recalls 24 = .ok (.iconst 1, 1) := by decide +kernel
theorem dX9_recalls_25 : decode cX9_recalls 25 = .ok (.isub, 1) := by decide +kernel
theorem dX9_recalls_26 : decode cX9_recalls 26 = .ok (.istore_n 3, 1) := by decide +kernel
theorem dX9_recalls_27 : decode cX9_recalls 27 = .ok (.iload_n 3, 1) := by decide +kernel
theorem dX9_recalls_28 : decode cX9_recalls 28 = .ok (.ifCond .lt 30, 3) := by decide +kernel
theorem dX9_recalls_31 : decode cX9_recalls 31 = .ok (.aload_n 0, 1) := by decide +kernel
theorem dX9_recalls_32 : decode cX9_recalls 32 = .ok (.getfield 22, 3) := by decide +kernel
theorem dX9_recalls_35 : decode cX9_recalls 35 = .ok (.iload_n 3, 1) := by decide +kernel
theorem dX9_recalls_36 : decode cX9_recalls 36 = .ok (.iaload, 1) := by decide +kernel
theorem dX9_recalls_37 : decode cX9_recalls 37 = .ok (.iload_n 1, 1) := by decide +kernel
theorem dX9_recalls_38 : decode cX9_recalls 38 = .ok (.if_icmp .eq 6, 3) := by decide +kernel
theorem dX9_recalls_41 : decode cX9_recalls 41 = .ok (.goto 11, 3) := by decide +kernel
theorem dX9_recalls_44 : decode cX9_recalls 44 = .ok (.aload_n 0, 1) := by decide +kernel
theorem dX9_recalls_45 : decode cX9_recalls 45 = .ok (.iload_n 3, 1) := by decide +kernel
theorem dX9_recalls_46 : decode cX9_recalls 46 = .ok (.invokevirtual 173, 3) := by decide +kernel
theorem dX9_recalls_49 : decode cX9_recalls 49 = .ok (.iinc 2 1, 3) := by decide +kernel
theorem dX9_recalls_52 : decode cX9_recalls 52 = .ok (.iinc 3 (-1), 3) := by decide +kernel
theorem dX9_recalls_55 : decode cX9_recalls 55 = .ok (.goto (-28), 3) := by decide +kernel
theorem dX9_recalls_58 : decode cX9_recalls 58 = .ok (.iload_n 2, 1) := by decide +kernel
theorem dX9_recalls_59 : decode cX9_recalls 59 = .ok (.ireturn, 1) := by decide +kernel
theorem dX9_days_0 : decode cX9_days 0 = .ok (.iload_n 1, 1) := by decide +kernel
theorem dX9_days_1 : decode cX9_days 1 = .ok (.iconst 1, 1) := by decide +kernel
theorem dX9_days_2 : decode cX9_days 2 = .ok (.bipush 60, 2) := by decide +kernel
theorem dX9_days_4 : decode cX9_days 4 = .ok (.invokestatic 182, 3) := by decide +kernel
theorem dX9_days_7 : decode cX9_days 7 = .ok (.istore_n 2, 1) := by decide +kernel
theorem dX9_days_8 : decode cX9_days 8 = .ok (.iload_n 2, 1) := by decide +kernel
theorem dX9_days_9 : decode cX9_days 9 = .ok (.ifCond .ne 18, 3) := by decide +kernel
theorem dX9_days_12 : decode cX9_days 12 = .ok (.aload_n 0, 1) := by decide +kernel
theorem dX9_days_13 : decode cX9_days 13 = .ok (.getfield 147, 3) := by decide +kernel
theorem dX9_days_16 : decode cX9_days 16 = .ok (.iload_n 1, 1) := by decide +kernel
theorem dX9_days_17 : decode cX9_days 17 = .ok (.iadd, 1) := by decide +kernel
theorem dX9_days_18 : decode cX9_days 18 = .ok (.sipush 999, 3) := by decide +kernel
theorem dX9_days_21 : decode cX9_days 21 = .ok (.if_icmp .le 6, 3) := by decide +kernel
theorem dX9_days_24 : decode cX9_days 24 = .ok (.bipush (-6), 2) := by decide +kernel
theorem dX9_days_26 : decode cX9_days 26 = .ok (.istore_n 2, 1) := by decide +kernel
theorem dX9_days_27 : decode cX9_days 27 = .ok (.iload_n 2, 1) := by decide +kernel
theorem dX9_days_28 : decode cX9_days 28 = .ok (.ifCond .eq 9, 3) := by decide +kernel
theorem dX9_days_31 : decode cX9_days 31 = .ok (.aload_n 0, 1) := by decide +kernel
theorem dX9_days_32 : decode cX9_days 32 = .ok (.iload_n 2, 1) := by decide +kernel
theorem dX9_days_33 : decode cX9_days 33 = .ok (.invokevirtual 188, 3) := by decide +kernel
theorem dX9_days_36 : decode cX9_days 36 = .ok (.ireturn, 1) := by decide +kernel
theorem dX9_days_37 : decode cX9_days 37 = .ok (.aload_n 0, 1) := by decide +kernel
theorem dX9_days_38 : decode cX9_days 38 = .ok (.invokevirtual 286, 3) := by decide +kernel
theorem dX9_days_41 : decode cX9_days 41 = .ok (.aload_n 0, 1) := by decide +kernel
theorem dX9_days_42 : decode cX9_days 42 = .ok (.iload_n 1, 1) := by decide +kernel
theorem dX9_days_43 : decode cX9_days 43 = .ok (.invokevirtual 217, 3) := by decide +kernel
theorem dX9_days_46 : decode cX9_days 46 = .ok (.aload_n 0, 1) := by decide +kernel
theorem dX9_days_47 : decode cX9_days 47 = .ok (.getfield 86, 3) := by decide +kernel
theorem dX9_days_50 : decode cX9_days 50 = .ok (.invokestatic 113, 3) := by decide +kernel
theorem dX9_days_53 : decode cX9_days 53 = .ok (.ireturn, 1) := by decide +kernel
theorem dX9_knownBehind_0 : decode cX9_knownBehind 0 = .ok (.aload_n 0, 1) := by decide +kernel
theorem dX9_knownBehind_1 : decode cX9_knownBehind 1 = .ok (.invokevirtual 289, 3) := by decide +kernel
theorem dX9_knownBehind_4 : decode cX9_knownBehind 4 = .ok (.aload_n 0, 1) := by decide +kernel
theorem dX9_knownBehind_5 : decode cX9_knownBehind 5 = .ok (.iload_n 2, 1) := by decide +kernel
theorem dX9_knownBehind_6 : decode cX9_knownBehind 6 = .ok (.invokevirtual 217, 3) := by decide +kernel
theorem dX9_knownBehind_9 : decode cX9_knownBehind 9 = .ok (.aload_n 0, 1) := by decide +kernel
theorem dX9_knownBehind_10 : decode cX9_knownBehind 10 = .ok (.iload_n 1, 1) := by decide +kernel
theorem dX9_knownBehind_11 : decode cX9_knownBehind 11 = .ok (.invokevirtual 283, 3) := by decide +kernel
theorem dX9_knownBehind_14 : decode cX9_knownBehind 14 = .ok (.invokestatic 113, 3) := by decide +kernel
theorem dX9_knownBehind_17 : decode cX9_knownBehind 17 = .ok (.istore_n 3, 1) := by decide +kernel
theorem dX9_knownBehind_18 : decode cX9_knownBehind 18 = .ok (.aload_n 0, 1) := by decide +kernel
theorem dX9_knownBehind_19 : decode cX9_knownBehind 19 = .ok (.invokevirtual 292, 3) := by decide +kernel
theorem dX9_knownBehind_22 : decode cX9_knownBehind 22 = .ok (.iload_n 3, 1) := by decide +kernel
theorem dX9_knownBehind_23 : decode cX9_knownBehind 23 = .ok (.ireturn, 1) := by decide +kernel
theorem dX9_knownIn_0 : decode cX9_knownIn 0 = .ok (.aload_n 0, 1) := by decide +kernel
theorem dX9_knownIn_1 : decode cX9_knownIn 1 = .ok (.iload_n 1, 1) := by decide +kernel
theorem dX9_knownIn_2 : decode cX9_knownIn 2 = .ok (.invokevirtual 214, 3) := by decide +kernel
theorem dX9_knownIn_5 : decode cX9_knownIn 5 = .ok (.ifCond .ne 7, 3) := by decide +kernel
theorem dX9_knownIn_8 : decode cX9_knownIn 8 = .ok (.iconst (-1), 1) := by decide +kernel
theorem dX9_knownIn_9 : decode cX9_knownIn 9 = .ok (.goto 10, 3) := by decide +kernel
theorem dX9_knownIn_12 : decode cX9_knownIn 12 = .ok (.iload_n 2, 1) := by decide +kernel
theorem dX9_knownIn_13 : decode cX9_knownIn 13 = .ok (.iconst 0, 1) := by decide +kernel
theorem dX9_knownIn_14 : decode cX9_knownIn 14 = .ok (.bipush 60, 2) := by decide +kernel
theorem dX9_knownIn_16 : decode cX9_knownIn 16 = .ok (.invokestatic 182, 3) := by decide +kernel
theorem dX9_knownIn_19 : decode cX9_knownIn 19 = .ok (.istore_n 3, 1) := by decide +kernel
theorem dX9_knownIn_20 : decode cX9_knownIn 20 = .ok (.iload_n 3, 1) := by decide +kernel
theorem dX9_knownIn_21 : decode cX9_knownIn 21 = .ok (.ifCond .eq 11, 3) := by decide +kernel
theorem dX9_knownIn_24 : decode cX9_knownIn 24 = .ok (.aload_n 0, 1) := by decide +kernel
theorem dX9_knownIn_25 : decode cX9_knownIn 25 = .ok (.iload_n 3, 1) := by decide +kernel
theorem dX9_knownIn_26 : decode cX9_knownIn 26 = .ok (.invokevirtual 188, 3) := by decide +kernel
theorem dX9_knownIn_29 : decode cX9_knownIn 29 = .ok (.goto 9, 3) := by decide +kernel
theorem dX9_knownIn_32 : decode cX9_knownIn 32 = .ok (.aload_n 0, 1) := by decide +kernel
theorem dX9_knownIn_33 : decode cX9_knownIn 33 = .ok (.iload_n 1, 1) := by decide +kernel
theorem dX9_knownIn_34 : decode cX9_knownIn 34 = .ok (.iload_n 2, 1) := by decide +kernel
theorem dX9_knownIn_35 : decode cX9_knownIn 35 = .ok (.invokevirtual 295, 3) := by decide +kernel
theorem dX9_knownIn_38 : decode cX9_knownIn 38 = .ok (.ireturn, 1) := by decide +kernel
theorem dX9_allKnown_0 : decode cX9_allKnown 0 = .ok (.iconst 0, 1) := by decide +kernel
theorem dX9_allKnown_1 : decode cX9_allKnown 1 = .ok (.istore_n 1, 1) := by decide +kernel
theorem dX9_allKnown_2 : decode cX9_allKnown 2 = .ok (.iconst 0, 1) := by decide +kernel
theorem dX9_allKnown_3 : decode cX9_allKnown 3 = .ok (.istore_n 2, 1) := by decide +kernel
theorem dX9_allKnown_4 : decode cX9_allKnown 4 = .ok (.iload_n 2, 1) := by decide +kernel
theorem dX9_allKnown_5 : decode cX9_allKnown 5 = .ok (.aload_n 0, 1) := by decide +kernel
theorem dX9_allKnown_6 : decode cX9_allKnown 6 = .ok (.getfield 79, 3) := by decide +kernel
theorem dX9_allKnown_9 : decode cX9_allKnown 9 = .ok (.if_icmp .ge 21, 3) := by decide +kernel
theorem dX9_allKnown_12 : decode cX9_allKnown 12 = .ok (.iload_n 1, 1) := by decide +kernel
theorem dX9_allKnown_13 : decode cX9_allKnown 13 = .ok (.aload_n 0, 1) := by decide +kernel
theorem dX9_allKnown_14 : decode cX9_allKnown 14 = .ok (.getfield 34, 3) := by decide +kernel
theorem dX9_allKnown_17 : decode cX9_allKnown 17 = .ok (.iload_n 2, 1) := by decide +kernel
theorem dX9_allKnown_18 : decode cX9_allKnown 18 = .ok (.laload, 1) := by decide +kernel
theorem dX9_allKnown_19 : decode cX9_allKnown 19 = .ok (.invokestatic 113, 3) := by decide +kernel
theorem dX9_allKnown_22 : decode cX9_allKnown 22 = .ok (.iadd, 1) := by decide +kernel
theorem dX9_allKnown_23 : decode cX9_allKnown 23 = .ok (.istore_n 1, 1) := by decide +kernel
theorem dX9_allKnown_24 : decode cX9_allKnown 24 = .ok (.iinc 2 1, 3) := by decide +kernel
theorem dX9_allKnown_27 : decode cX9_allKnown 27 = .ok (.goto (-23), 3) := by decide +kernel
theorem dX9_allKnown_30 : decode cX9_allKnown 30 = .ok (.iload_n 1, 1) := by decide +kernel
theorem dX9_allKnown_31 : decode cX9_allKnown 31 = .ok (.ireturn, 1) := by decide +kernel
theorem dX9_then_0 : decode cX9_then 0 = .ok (.iload_n 1, 1) := by decide +kernel
theorem dX9_then_1 : decode cX9_then 1 = .ok (.iconst 0, 1) := by decide +kernel
theorem dX9_then_2 : decode cX9_then 2 = .ok (.bipush 60, 2) := by decide +kernel
theorem dX9_then_4 : decode cX9_then 4 = .ok (.invokestatic 182, 3) := by decide +kernel
theorem dX9_then_7 : decode cX9_then 7 = .ok (.istore_n 3, 1) := by decide +kernel
theorem dX9_then_8 : decode cX9_then 8 = .ok (.iload_n 3, 1) := by decide +kernel
theorem dX9_then_9 : decode cX9_then 9 = .ok (.ifCond .ne 15, 3) := by decide +kernel
theorem dX9_then_12 : decode cX9_then 12 = .ok (.iload_n 2, 1) := by decide +kernel
theorem dX9_then_13 : decode cX9_then 13 = .ok (.iconst 0, 1) := by decide +kernel
theorem dX9_then_14 : decode cX9_then 14 = .ok (.iconst 3, 1) := by decide +kernel
theorem dX9_then_15 : decode cX9_then 15 = .ok (.invokestatic 82, 3) := by decide +kernel
theorem dX9_then_18 : decode cX9_then 18 = .ok (.ifCond .ne 6, 3) := by decide +kernel
theorem dX9_then_21 : decode cX9_then 21 = .ok (.bipush (-2), 2) := by decide +kernel
theorem dX9_then_23 : decode cX9_then 23 = .ok (.istore_n 3, 1) := by decide +kernel
theorem dX9_then_24 : decode cX9_then 24 = .ok (.iload_n 3, 1) := by decide +kernel
theorem dX9_then_25 : decode cX9_then 25 = .ok (.ifCond .eq 9, 3) := by decide +kernel
theorem dX9_then_28 : decode cX9_then 28 = .ok (.aload_n 0, 1) := by decide +kernel
theorem dX9_then_29 : decode cX9_then 29 = .ok (.iload_n 3, 1) := by decide +kernel
theorem dX9_then_30 : decode cX9_then 30 = .ok (.invokevirtual 188, 3) := by decide +kernel
theorem dX9_then_33 : decode cX9_then 33 = .ok (.ireturn, 1) := by decide +kernel
theorem dX9_then_34 : decode cX9_then 34 = .ok (.aload_n 0, 1) := by decide +kernel
theorem dX9_then_35 : decode cX9_then 35 = .ok (.invokevirtual 289, 3) := by decide +kernel
theorem dX9_then_38 : decode cX9_then 38 = .ok (.aload_n 0, 1) := by decide +kernel
theorem dX9_then_39 : decode cX9_then 39 = .ok (.iload_n 1, 1) := by decide +kernel
theorem dX9_then_40 : decode cX9_then 40 = .ok (.invokevirtual 217, 3) := by decide +kernel
theorem dX9_then_43 : decode cX9_then 43 = .ok (.iload_n 2, 1) := by decide +kernel
theorem dX9_then_44 : decode cX9_then 44 = .ok (.ifCond .ne 10, 3) := by decide +kernel
theorem dX9_then_47 : decode cX9_then 47 = .ok (.aload_n 0, 1) := by decide +kernel
theorem dX9_then_48 : decode cX9_then 48 = .ok (.getfield 134, 3) := by decide +kernel
theorem dX9_then_51 : decode cX9_then 51 = .ok (.goto 31, 3) := by decide +kernel
theorem dX9_then_54 : decode cX9_then 54 = .ok (.iload_n 2, 1) := by decide +kernel
theorem dX9_then_55 : decode cX9_then 55 = .ok (.iconst 1, 1) := by decide +kernel
theorem dX9_then_56 : decode cX9_then 56 = .ok (.if_icmp .ne 10, 3) := by decide +kernel
theorem dX9_then_59 : decode cX9_then 59 = .ok (.aload_n 0, 1) := by decide +kernel
theorem dX9_then_60 : decode cX9_then 60 = .ok (.getfield 128, 3) := by decide +kernel
theorem dX9_then_63 : decode cX9_then 63 = .ok (.goto 19, 3) := by decide +kernel
theorem dX9_then_66 : decode cX9_then 66 = .ok (.iload_n 2, 1) := by decide +kernel
theorem dX9_then_67 : decode cX9_then 67 = .ok (.iconst 2, 1) := by decide +kernel
theorem dX9_then_68 : decode cX9_then 68 = .ok (.if_icmp .ne 10, 3) := by decide +kernel
theorem dX9_then_71 : decode cX9_then 71 = .ok (.aload_n 0, 1) := by decide +kernel
theorem dX9_then_72 : decode cX9_then 72 = .ok (.getfield 110, 3) := by decide +kernel
theorem dX9_then_75 : decode cX9_then 75 = .ok (.goto 7, 3) := by decide +kernel
theorem dX9_then_78 : decode cX9_then 78 = .ok (.aload_n 0, 1) := by decide +kernel
theorem dX9_then_79 : decode cX9_then 79 = .ok (.invokevirtual 298, 3) := by decide +kernel
theorem dX9_then_82 : decode cX9_then 82 = .ok (.istore 4, 2) := by decide +kernel
theorem dX9_then_84 : decode cX9_then 84 = .ok (.aload_n 0, 1) := by decide +kernel
theorem dX9_then_85 : decode cX9_then 85 = .ok (.invokevirtual 292, 3) := by decide +kernel
theorem dX9_then_88 : decode cX9_then 88 = .ok (.iload 4, 2) := by decide +kernel
theorem dX9_then_90 : decode cX9_then 90 = .ok (.ireturn, 1) := by decide +kernel
theorem dX9_whenFrom_0 : decode cX9_whenFrom 0 = .ok (.iconst 0, 1) := by decide +kernel
theorem dX9_whenFrom_1 : decode cX9_whenFrom 1 = .ok (.istore_n 3, 1) := by decide +kernel
theorem dX9_whenFrom_2 : decode cX9_whenFrom 2 = .ok (.iload_n 3, 1) := by decide +kernel
theorem dX9_whenFrom_3 : decode cX9_whenFrom 3 = .ok (.bipush 60, 2) := by decide +kernel
theorem dX9_whenFrom_5 : decode cX9_whenFrom 5 = .ok (.if_icmp .gt 27, 3) := by decide +kernel
theorem dX9_whenFrom_8 : decode cX9_whenFrom 8 = .ok (.aload_n 0, 1) := by decide +kernel
theorem dX9_whenFrom_9 : decode cX9_whenFrom 9 = .ok (.iload_n 1, 1) := by decide +kernel
theorem dX9_whenFrom_10 : decode cX9_whenFrom 10 = .ok (.invokevirtual 283, 3) := by decide +kernel
theorem dX9_whenFrom_13 : decode cX9_whenFrom 13 = .ok (.iload_n 2, 1) := by decide +kernel
theorem dX9_whenFrom_14 : decode cX9_whenFrom 14 = .ok (.invokestatic 75, 3) := by decide +kernel
theorem dX9_whenFrom_17 : decode cX9_whenFrom 17 = .ok (.ifCond .eq 5, 3) := by decide +kernel
theorem dX9_whenFrom_20 : decode cX9_whenFrom 20 = .ok (.iload_n 3, 1) := by decide +kernel
theorem dX9_whenFrom_21 : decode cX9_whenFrom 21 = .ok (.ireturn, 1) := by decide +kernel
theorem dX9_whenFrom_22 : decode cX9_whenFrom 22 = .ok (.aload_n 0, 1) := by decide +kernel
theorem dX9_whenFrom_23 : decode cX9_whenFrom 23 = .ok (.invokevirtual 179, 3) := by decide +kernel
theorem dX9_whenFrom_26 : decode cX9_whenFrom 26 = .ok (.iinc 3 1, 3) := by decide +kernel
theorem dX9_whenFrom_29 : decode cX9_whenFrom 29 = .ok (.goto (-27), 3) := by decide +kernel
theorem dX9_whenFrom_32 : decode cX9_whenFrom 32 = .ok (.bipush (-9), 2) := by decide +kernel
theorem dX9_whenFrom_34 : decode cX9_whenFrom 34 = .ok (.ireturn, 1) := by decide +kernel
theorem dX9_when_0 : decode cX9_when 0 = .ok (.aload_n 0, 1) := by decide +kernel
theorem dX9_when_1 : decode cX9_when 1 = .ok (.iload_n 1, 1) := by decide +kernel
theorem dX9_when_2 : decode cX9_when 2 = .ok (.iload_n 2, 1) := by decide +kernel
theorem dX9_when_3 : decode cX9_when 3 = .ok (.invokevirtual 280, 3) := by decide +kernel
theorem dX9_when_6 : decode cX9_when 6 = .ok (.istore_n 3, 1) := by decide +kernel
theorem dX9_when_7 : decode cX9_when 7 = .ok (.iload_n 3, 1) := by decide +kernel
theorem dX9_when_8 : decode cX9_when 8 = .ok (.ifCond .eq 9, 3) := by decide +kernel
theorem dX9_when_11 : decode cX9_when 11 = .ok (.aload_n 0, 1) := by decide +kernel
theorem dX9_when_12 : decode cX9_when 12 = .ok (.iload_n 3, 1) := by decide +kernel
theorem dX9_when_13 : decode cX9_when 13 = .ok (.invokevirtual 188, 3) := by decide +kernel
theorem dX9_when_16 : decode cX9_when 16 = .ok (.ireturn, 1) := by decide +kernel
theorem dX9_when_17 : decode cX9_when 17 = .ok (.aload_n 0, 1) := by decide +kernel
theorem dX9_when_18 : decode cX9_when 18 = .ok (.invokevirtual 289, 3) := by decide +kernel
theorem dX9_when_21 : decode cX9_when 21 = .ok (.aload_n 0, 1) := by decide +kernel
theorem dX9_when_22 : decode cX9_when 22 = .ok (.iload_n 1, 1) := by decide +kernel
theorem dX9_when_23 : decode cX9_when 23 = .ok (.iload_n 2, 1) := by decide +kernel
theorem dX9_when_24 : decode cX9_when 24 = .ok (.invokevirtual 301, 3) := by decide +kernel
theorem dX9_when_27 : decode cX9_when 27 = .ok (.istore 4, 2) := by decide +kernel
theorem dX9_when_29 : decode cX9_when 29 = .ok (.aload_n 0, 1) := by decide +kernel
theorem dX9_when_30 : decode cX9_when 30 = .ok (.invokevirtual 292, 3) := by decide +kernel
theorem dX9_when_33 : decode cX9_when 33 = .ok (.iload 4, 2) := by decide +kernel
theorem dX9_when_35 : decode cX9_when 35 = .ok (.ireturn, 1) := by decide +kernel
theorem dX9_unknowing_0 : decode cX9_unknowing 0 = .ok (.iconst 0, 1) := by decide +kernel
theorem dX9_unknowing_1 : decode cX9_unknowing 1 = .ok (.istore_n 2, 1) := by decide +kernel
theorem dX9_unknowing_2 : decode cX9_unknowing 2 = .ok (.iconst 0, 1) := by decide +kernel
theorem dX9_unknowing_3 : decode cX9_unknowing 3 = .ok (.istore_n 3, 1) := by decide +kernel
theorem dX9_unknowing_4 : decode cX9_unknowing 4 = .ok (.iload_n 3, 1) := by decide +kernel
theorem dX9_unknowing_5 : decode cX9_unknowing 5 = .ok (.aload_n 0, 1) := by decide +kernel
theorem dX9_unknowing_6 : decode cX9_unknowing 6 = .ok (.getfield 79, 3) := by decide +kernel
theorem dX9_unknowing_9 : decode cX9_unknowing 9 = .ok (.if_icmp .ge 32, 3) := by decide +kernel
theorem dX9_unknowing_12 : decode cX9_unknowing 12 = .ok (.iload_n 2, 1) := by decide +kernel
theorem dX9_unknowing_13 : decode cX9_unknowing 13 = .ok (.aload_n 0, 1) := by decide +kernel
theorem dX9_unknowing_14 : decode cX9_unknowing 14 = .ok (.getfield 34, 3) := by decide +kernel
theorem dX9_unknowing_17 : decode cX9_unknowing 17 = .ok (.iload_n 3, 1) := by decide +kernel
theorem dX9_unknowing_18 : decode cX9_unknowing 18 = .ok (.laload, 1) := by decide +kernel
theorem dX9_unknowing_19 : decode cX9_unknowing 19 = .ok (.iload_n 1, 1) := by decide +kernel
theorem dX9_unknowing_20 : decode cX9_unknowing 20 = .ok (.invokestatic 75, 3) := by decide +kernel
theorem dX9_unknowing_23 : decode cX9_unknowing 23 = .ok (.ifCond .eq 7, 3) := by decide +kernel
theorem dX9_unknowing_26 : decode cX9_unknowing 26 = .ok (.iconst 0, 1) := by decide +kernel
theorem dX9_unknowing_27 : decode cX9_unknowing 27 = .ok (.goto 6, 3) := by decide +kernel
theorem dX9_unknowing_30 : decode cX9_unknowing 30 = .ok (.iconst 1, 1) := by decide +kernel
theorem dX9_unknowing_31 : decode cX9_unknowing 31 = .ok (.iload_n 3, 1) := by decide +kernel
theorem dX9_unknowing_32 : decode cX9_unknowing 32 = .ok (.ishl, 1) := by decide +kernel
theorem dX9_unknowing_33 : decode cX9_unknowing 33 = .ok (.ior, 1) := by decide +kernel
theorem dX9_unknowing_34 : decode cX9_unknowing 34 = .ok (.istore_n 2, 1) := by decide +kernel
theorem dX9_unknowing_35 : decode cX9_unknowing 35 = .ok (.iinc 3 1, 3) := by decide +kernel
theorem dX9_unknowing_38 : decode cX9_unknowing 38 = .ok (.goto (-34), 3) := by decide +kernel
theorem dX9_unknowing_41 : decode cX9_unknowing 41 = .ok (.iload_n 2, 1) := by decide +kernel
theorem dX9_unknowing_42 : decode cX9_unknowing 42 = .ok (.ireturn, 1) := by decide +kernel
theorem dX9_first_0 : decode cX9_first 0 = .ok (.iload_n 1, 1) := by decide +kernel
theorem dX9_first_1 : decode cX9_first 1 = .ok (.iconst 0, 1) := by decide +kernel
theorem dX9_first_2 : decode cX9_first 2 = .ok (.bipush 39, 2) := by decide +kernel
theorem dX9_first_4 : decode cX9_first 4 = .ok (.invokestatic 182, 3) := by decide +kernel
theorem dX9_first_7 : decode cX9_first 7 = .ok (.istore_n 2, 1) := by decide +kernel
theorem dX9_first_8 : decode cX9_first 8 = .ok (.iload_n 2, 1) := by decide +kernel
theorem dX9_first_9 : decode cX9_first 9 = .ok (.ifCond .eq 9, 3) := by decide +kernel
theorem dX9_first_12 : decode cX9_first 12 = .ok (.aload_n 0, 1) := by decide +kernel
theorem dX9_first_13 : decode cX9_first 13 = .ok (.iload_n 2, 1) := by decide +kernel
theorem dX9_first_14 : decode cX9_first 14 = .ok (.invokevirtual 188, 3) := by decide +kernel
theorem dX9_first_17 : decode cX9_first 17 = .ok (.ireturn, 1) := by decide +kernel
theorem dX9_first_18 : decode cX9_first 18 = .ok (.aload_n 0, 1) := by decide +kernel
theorem dX9_first_19 : decode cX9_first 19 = .ok (.iload_n 1, 1) := by decide +kernel
theorem dX9_first_20 : decode cX9_first 20 = .ok (.invokevirtual 304, 3) := by decide +kernel
theorem dX9_first_23 : decode cX9_first 23 = .ok (.istore_n 3, 1) := by decide +kernel
theorem dX9_first_24 : decode cX9_first 24 = .ok (.iconst 0, 1) := by decide +kernel
theorem dX9_first_25 : decode cX9_first 25 = .ok (.istore 4, 2) := by decide +kernel
theorem dX9_first_27 : decode cX9_first 27 = .ok (.aload_n 0, 1) := by decide +kernel
theorem dX9_first_28 : decode cX9_first 28 = .ok (.invokevirtual 289, 3) := by decide +kernel
theorem dX9_first_31 : decode cX9_first 31 = .ok (.iconst 0, 1) := by decide +kernel
theorem dX9_first_32 : decode cX9_first 32 = .ok (.istore 5, 2) := by decide +kernel
theorem dX9_first_34 : decode cX9_first 34 = .ok (.iload 5, 2) := by decide +kernel
theorem dX9_first_36 : decode cX9_first 36 = .ok (.bipush 60, 2) := by decide +kernel
theorem dX9_first_38 : decode cX9_first 38 = .ok (.if_icmp .ge 29, 3) := by decide +kernel
theorem dX9_first_41 : decode cX9_first 41 = .ok (.iload 4, 2) := by decide +kernel
theorem dX9_first_43 : decode cX9_first 43 = .ok (.ifCond .ne 24, 3) := by decide +kernel
theorem dX9_first_46 : decode cX9_first 46 = .ok (.aload_n 0, 1) := by decide +kernel
theorem dX9_first_47 : decode cX9_first 47 = .ok (.invokevirtual 179, 3) := by decide +kernel
theorem dX9_first_50 : decode cX9_first 50 = .ok (.iload_n 3, 1) := by decide +kernel
theorem dX9_first_51 : decode cX9_first 51 = .ok (.aload_n 0, 1) := by decide +kernel
theorem dX9_first_52 : decode cX9_first 52 = .ok (.iload_n 1, 1) := by decide +kernel
theorem dX9_first_53 : decode cX9_first 53 = .ok (.invokevirtual 304, 3) := by decide +kernel
theorem dX9_first_56 : decode cX9_first 56 = .ok (.iconst (-1), 1) := by decide +kernel
theorem dX9_first_57 : decode cX9_first 57 = .ok (.ixor, 1) := by decide +kernel
theorem dX9_first_58 : decode cX9_first 58 = .ok (.iand, 1) := by decide +kernel
theorem dX9_first_59 : decode cX9_first 59 = .ok (.istore 4, 2) := by decide +kernel
theorem dX9_first_61 : decode cX9_first 61 = .ok (.iinc 5 1, 3) := by decide +kernel
theorem dX9_first_64 : decode cX9_first 64 = .ok (.goto (-30), 3) := by decide +kernel
theorem dX9_first_67 : decode cX9_first 67 = .ok (.aload_n 0, 1) := by decide +kernel
theorem dX9_first_68 : decode cX9_first 68 = .ok (.invokevirtual 292, 3) := by decide +kernel
theorem dX9_first_71 : decode cX9_first 71 = .ok (.iload 4, 2) := by decide +kernel
theorem dX9_first_73 : decode cX9_first 73 = .ok (.i2l, 1) := by decide +kernel
theorem dX9_first_74 : decode cX9_first 74 = .ok (.iconst 0, 1) := by decide +kernel
theorem dX9_first_75 : decode cX9_first 75 = .ok (.invokestatic 99, 3) := by decide +kernel
theorem dX9_first_78 : decode cX9_first 78 = .ok (.ireturn, 1) := by decide +kernel
theorem dX9_letHer_0 : decode cX9_letHer 0 = .ok (.aload_n 0, 1) := by decide +kernel
theorem dX9_letHer_1 : decode cX9_letHer 1 = .ok (.iload_n 1, 1) := by decide +kernel
theorem dX9_letHer_2 : decode cX9_letHer 2 = .ok (.invokevirtual 153, 3) := by decide +kernel
theorem dX9_letHer_5 : decode cX9_letHer 5 = .ok (.ifCond .ne 7, 3) := by decide +kernel
theorem dX9_letHer_8 : decode cX9_letHer 8 = .ok (.iconst (-1), 1) := by decide +kernel
theorem dX9_letHer_9 : decode cX9_letHer 9 = .ok (.goto 10, 3) := by decide +kernel
theorem dX9_letHer_12 : decode cX9_letHer 12 = .ok (.iload_n 2, 1) := by decide +kernel
theorem dX9_letHer_13 : decode cX9_letHer 13 = .ok (.iconst 0, 1) := by decide +kernel
theorem dX9_letHer_14 : decode cX9_letHer 14 = .ok (.bipush 30, 2) := by decide +kernel
theorem dX9_letHer_16 : decode cX9_letHer 16 = .ok (.invokestatic 182, 3) := by decide +kernel
theorem dX9_letHer_19 : decode cX9_letHer 19 = .ok (.istore 4, 2) := by decide +kernel
theorem dX9_letHer_21 : decode cX9_letHer 21 = .ok (.iload 4, 2) := by decide +kernel
theorem dX9_letHer_23 : decode cX9_letHer 23 = .ok (.ifCond .ne 16, 3) := by decide +kernel
theorem dX9_letHer_26 : decode cX9_letHer 26 = .ok (.iload_n 3, 1) := by decide +kernel
theorem dX9_letHer_27 : decode cX9_letHer 27 = .ok (.iconst 0, 1) := by decide +kernel
theorem dX9_letHer_28 : decode cX9_letHer 28 = .ok (.iconst 1, 1) := by decide +kernel
theorem dX9_letHer_29 : decode cX9_letHer 29 = .ok (.invokestatic 82, 3) := by decide +kernel
theorem dX9_letHer_32 : decode cX9_letHer 32 = .ok (.ifCond .ne 7, 3) := by decide +kernel
theorem dX9_letHer_35 : decode cX9_letHer 35 = .ok (.bipush (-2), 2) := by decide +kernel
theorem dX9_letHer_37 : decode cX9_letHer 37 = .ok (.istore 4, 2) := by decide +kernel
theorem dX9_letHer_39 : decode cX9_letHer 39 = .ok (.iload 4, 2) := by decide +kernel
theorem dX9_letHer_41 : decode cX9_letHer 41 = .ok (.ifCond .eq 10, 3) := by decide +kernel
theorem dX9_letHer_44 : decode cX9_letHer 44 = .ok (.aload_n 0, 1) := by decide +kernel
theorem dX9_letHer_45 : decode cX9_letHer 45 = .ok (.iload 4, 2) := by decide +kernel
theorem dX9_letHer_47 : decode cX9_letHer 47 = .ok (.invokevirtual 188, 3) := by decide +kernel
theorem dX9_letHer_50 : decode cX9_letHer 50 = .ok (.ireturn, 1) := by decide +kernel
theorem dX9_letHer_51 : decode cX9_letHer 51 = .ok (.bipush (-9), 2) := by decide +kernel
theorem dX9_letHer_53 : decode cX9_letHer 53 = .ok (.istore 5, 2) := by decide +kernel
theorem dX9_letHer_55 : decode cX9_letHer 55 = .ok (.aload_n 0, 1) := by decide +kernel
theorem dX9_letHer_56 : decode cX9_letHer 56 = .ok (.iload_n 1, 1) := by decide +kernel
theorem dX9_letHer_57 : decode cX9_letHer 57 = .ok (.iload_n 2, 1) := by decide +kernel
theorem dX9_letHer_58 : decode cX9_letHer 58 = .ok (.invokevirtual 295, 3) := by decide +kernel
theorem dX9_letHer_61 : decode cX9_letHer 61 = .ok (.istore 6, 2) := by decide +kernel
theorem dX9_letHer_63 : decode cX9_letHer 63 = .ok (.aload_n 0, 1) := by decide +kernel
theorem dX9_letHer_64 : decode cX9_letHer 64 = .ok (.getfield 86, 3) := by decide +kernel
theorem dX9_letHer_67 : decode cX9_letHer 67 = .ok (.lstore 7, 2) := by decide +kernel
theorem dX9_letHer_69 : decode cX9_letHer 69 = .ok (.iconst 0, 1) := by decide +kernel
theorem dX9_letHer_70 : decode cX9_letHer 70 = .ok (.istore 9, 2) := by decide +kernel
theorem dX9_letHer_72 : decode cX9_letHer 72 = .ok (.iload 9, 2) := by decide +kernel
theorem dX9_letHer_74 : decode cX9_letHer 74 = .ok (.bipush 40, 2) := by decide +kernel
theorem dX9_letHer_76 : decode cX9_letHer 76 = .ok (.if_icmp .ge 52, 3) := by decide +kernel
theorem dX9_letHer_79 : decode cX9_letHer 79 = .ok (.aload_n 0, 1) := by decide +kernel
theorem dX9_letHer_80 : decode cX9_letHer 80 = .ok (.lload 7, 2) := by decide +kernel
theorem dX9_letHer_82 : decode cX9_letHer 82 = .ok (.lconst 1, 1) := by decide +kernel
theorem dX9_letHer_83 : decode cX9_letHer 83 = .ok (.iload 9, 2) := by decide +kernel
theorem dX9_letHer_85 : decode cX9_letHer 85 = .ok (.lshl, 1) := by decide +kernel
theorem dX9_letHer_86 : decode cX9_letHer 86 = .ok (.lor, 1) := by decide +kernel
theorem dX9_letHer_87 : decode cX9_letHer 87 = .ok (.putfield 86, 3) := by decide +kernel
theorem dX9_letHer_90 : decode cX9_letHer 90 = .ok (.aload_n 0, 1) := by decide +kernel
theorem dX9_letHer_91 : decode cX9_letHer 91 = .ok (.iload_n 1, 1) := by decide +kernel
theorem dX9_letHer_92 : decode cX9_letHer 92 = .ok (.iload_n 2, 1) := by decide +kernel
theorem dX9_letHer_93 : decode cX9_letHer 93 = .ok (.invokevirtual 295, 3) := by decide +kernel
theorem dX9_letHer_96 : decode cX9_letHer 96 = .ok (.istore 10, 2) := by decide +kernel
theorem dX9_letHer_98 : decode cX9_letHer 98 = .ok (.aload_n 0, 1) := by decide +kernel
theorem dX9_letHer_99 : decode cX9_letHer 99 = .ok (.lload 7, 2) := by decide +kernel
theorem dX9_letHer_101 : decode cX9_letHer 101 = .ok (.putfield 86, 3) := by decide +kernel
theorem dX9_letHer_104 : decode cX9_letHer 104 = .ok (.iload 10, 2) := by decide +kernel
theorem dX9_letHer_106 : decode cX9_letHer 106 = .ok (.iload 6, 2) := by decide +kernel
theorem dX9_letHer_108 : decode cX9_letHer 108 = .ok (.if_icmp .gt 6, 3) := by decide +kernel
theorem dX9_letHer_111 : decode cX9_letHer 111 = .ok (.goto 11, 3) := by decide +kernel
theorem dX9_letHer_114 : decode cX9_letHer 114 = .ok (.iload 9, 2) := by decide +kernel
theorem dX9_letHer_116 : decode cX9_letHer 116 = .ok (.istore 5, 2) := by decide +kernel
theorem dX9_letHer_118 : decode cX9_letHer 118 = .ok (.iload 10, 2) := by decide +kernel
theorem dX9_letHer_120 : decode cX9_letHer 120 = .ok (.istore 6, 2) := by decide +kernel
theorem dX9_letHer_122 : decode cX9_letHer 122 = .ok (.iinc 9 1, 3) := by decide +kernel
theorem dX9_letHer_125 : decode cX9_letHer 125 = .ok (.goto (-53), 3) := by decide +kernel
theorem dX9_letHer_128 : decode cX9_letHer 128 = .ok (.iload 5, 2) := by decide +kernel
theorem dX9_letHer_130 : decode cX9_letHer 130 = .ok (.ifCond .ge 8, 3) := by decide +kernel
theorem dX9_letHer_133 : decode cX9_letHer 133 = .ok (.bipush (-9), 2) := by decide +kernel
theorem dX9_letHer_135 : decode cX9_letHer 135 = .ok (.goto 14, 3) := by decide +kernel
theorem dX9_letHer_138 : decode cX9_letHer 138 = .ok (.iload_n 3, 1) := by decide +kernel
theorem dX9_letHer_139 : decode cX9_letHer 139 = .ok (.ifCond .ne 8, 3) := by decide +kernel
theorem dX9_letHer_142 : decode cX9_letHer 142 = .ok (.iload 5, 2) := by decide +kernel
theorem dX9_letHer_144 : decode cX9_letHer 144 = .ok (.goto 5, 3) := by decide +kernel
theorem dX9_letHer_147 : decode cX9_letHer 147 = .ok (.iload 6, 2) := by decide +kernel
theorem dX9_letHer_149 : decode cX9_letHer 149 = .ok (.ireturn, 1) := by decide +kernel
theorem dX9_isKnownBehind_0 : decode cX9_isKnownBehind 0 = .ok (.aload_n 0, 1) := by decide +kernel
theorem dX9_isKnownBehind_1 : decode cX9_isKnownBehind 1 = .ok (.iload_n 3, 1) := by decide +kernel
theorem dX9_isKnownBehind_2 : decode cX9_isKnownBehind 2 = .ok (.invokevirtual 217, 3) := by decide +kernel
theorem dX9_isKnownBehind_5 : decode cX9_isKnownBehind 5 = .ok (.aload_n 0, 1) := by decide +kernel
theorem dX9_isKnownBehind_6 : decode cX9_isKnownBehind 6 = .ok (.iload_n 1, 1) := by decide +kernel
theorem dX9_isKnownBehind_7 : decode cX9_isKnownBehind 7 = .ok (.invokevirtual 283, 3) := by decide +kernel
theorem dX9_isKnownBehind_10 : decode cX9_isKnownBehind 10 = .ok (.iload_n 2, 1) := by decide +kernel
theorem dX9_isKnownBehind_11 : decode cX9_isKnownBehind 11 = .ok (.invokestatic 75, 3) := by decide +kernel
theorem dX9_isKnownBehind_14 : decode cX9_isKnownBehind 14 = .ok (.ireturn, 1) := by decide +kernel
theorem dX9_rubberFor_0 : decode cX9_rubberFor 0 = .ok (.aload_n 0, 1) := by decide +kernel
theorem dX9_rubberFor_1 : decode cX9_rubberFor 1 = .ok (.iload_n 1, 1) := by decide +kernel
theorem dX9_rubberFor_2 : decode cX9_rubberFor 2 = .ok (.invokevirtual 153, 3) := by decide +kernel
theorem dX9_rubberFor_5 : decode cX9_rubberFor 5 = .ok (.ifCond .ne 7, 3) := by decide +kernel
theorem dX9_rubberFor_8 : decode cX9_rubberFor 8 = .ok (.iconst (-1), 1) := by decide +kernel
theorem dX9_rubberFor_9 : decode cX9_rubberFor 9 = .ok (.goto 34, 3) := by decide +kernel
theorem dX9_rubberFor_12 : decode cX9_rubberFor 12 = .ok (.iload_n 2, 1) := by decide +kernel
theorem dX9_rubberFor_13 : decode cX9_rubberFor 13 = .ok (.ifCond .lt 7, 3) := by decide +kernel
theorem dX9_rubberFor_16 : decode cX9_rubberFor 16 = .ok (.iload_n 3, 1) := by decide +kernel
theorem dX9_rubberFor_17 : decode cX9_rubberFor 17 = .ok (.ifCond .ge 8, 3) := by decide +kernel
theorem dX9_rubberFor_20 : decode cX9_rubberFor 20 = .ok (.bipush (-4), 2) := by decide +kernel
theorem dX9_rubberFor_22 : decode cX9_rubberFor 22 = .ok (.goto 21, 3) := by decide +kernel
theorem dX9_rubberFor_25 : decode cX9_rubberFor 25 = .ok (.iload_n 2, 1) := by decide +kernel
theorem dX9_rubberFor_26 : decode cX9_rubberFor 26 = .ok (.bipush 39, 2) := by decide +kernel
theorem dX9_rubberFor_28 : decode cX9_rubberFor 28 = .ok (.if_icmp .gt 9, 3) := by decide +kernel
theorem dX9_rubberFor_31 : decode cX9_rubberFor 31 = .ok (.iload_n 3, 1) := by decide +kernel
theorem dX9_rubberFor_32 : decode cX9_rubberFor 32 = .ok (.bipush 60, 2) := by decide +kernel
theorem dX9_rubberFor_34 : decode cX9_rubberFor 34 = .ok (.if_icmp .le 8, 3) := by decide +kernel
theorem dX9_rubberFor_37 : decode cX9_rubberFor 37 = .ok (.bipush (-6), 2) := by decide +kernel
theorem dX9_rubberFor_39 : decode cX9_rubberFor 39 = .ok (.goto 4, 3) := by decide +kernel
theorem dX9_rubberFor_42 : decode cX9_rubberFor 42 = .ok (.iconst 0, 1) := by decide +kernel
theorem dX9_rubberFor_43 : decode cX9_rubberFor 43 = .ok (.istore 4, 2) := by decide +kernel
theorem dX9_rubberFor_45 : decode cX9_rubberFor 45 = .ok (.iload 4, 2) := by decide +kernel
theorem dX9_rubberFor_47 : decode cX9_rubberFor 47 = .ok (.ifCond .eq 10, 3) := by decide +kernel
theorem dX9_rubberFor_50 : decode cX9_rubberFor 50 = .ok (.aload_n 0, 1) := by decide +kernel
theorem dX9_rubberFor_51 : decode cX9_rubberFor 51 = .ok (.iload 4, 2) := by decide +kernel
theorem dX9_rubberFor_53 : decode cX9_rubberFor 53 = .ok (.invokevirtual 188, 3) := by decide +kernel
theorem dX9_rubberFor_56 : decode cX9_rubberFor 56 = .ok (.ireturn, 1) := by decide +kernel
theorem dX9_rubberFor_57 : decode cX9_rubberFor 57 = .ok (.bipush (-9), 2) := by decide +kernel
theorem dX9_rubberFor_59 : decode cX9_rubberFor 59 = .ok (.istore 5, 2) := by decide +kernel
theorem dX9_rubberFor_61 : decode cX9_rubberFor 61 = .ok (.bipush 18, 2) := by decide +kernel
theorem dX9_rubberFor_63 : decode cX9_rubberFor 63 = .ok (.istore 6, 2) := by decide +kernel
theorem dX9_rubberFor_65 : decode cX9_rubberFor 65 = .ok (.iload 6, 2) := by decide +kernel
theorem dX9_rubberFor_67 : decode cX9_rubberFor 67 = .ok (.ifCond .lt 42, 3) := by decide +kernel
theorem dX9_rubberFor_70 : decode cX9_rubberFor 70 = .ok (.aload_n 0, 1) := by decide +kernel
theorem dX9_rubberFor_71 : decode cX9_rubberFor 71 = .ok (.invokevirtual 289, 3) := by decide +kernel
theorem dX9_rubberFor_74 : decode cX9_rubberFor 74 = .ok (.aload_n 0, 1) := by decide +kernel
theorem dX9_rubberFor_75 : decode cX9_rubberFor 75 = .ok (.iload 6, 2) := by decide +kernel
theorem dX9_rubberFor_77 : decode cX9_rubberFor 77 = .ok (.putfield 68, 3) := by decide +kernel
theorem dX9_rubberFor_80 : decode cX9_rubberFor 80 = .ok (.aload_n 0, 1) := by decide +kernel
theorem dX9_rubberFor_81 : decode cX9_rubberFor 81 = .ok (.iload_n 1, 1) := by decide +kernel
theorem dX9_rubberFor_82 : decode cX9_rubberFor 82 = .ok (.iload_n 2, 1) := by decide +kernel
theorem dX9_rubberFor_83 : decode cX9_rubberFor 83 = .ok (.iload_n 3, 1) := by decide +kernel
theorem dX9_rubberFor_84 : decode cX9_rubberFor 84 = .ok (.invokevirtual 307, 3) := by decide +kernel
theorem dX9_rubberFor_87 : decode cX9_rubberFor 87 = .ok (.ifCond .eq 8, 3) := by decide +kernel
theorem dX9_rubberFor_90 : decode cX9_rubberFor 90 = .ok (.iload 5, 2) := by decide +kernel
theorem dX9_rubberFor_92 : decode cX9_rubberFor 92 = .ok (.goto 5, 3) := by decide +kernel
theorem dX9_rubberFor_95 : decode cX9_rubberFor 95 = .ok (.iload 6, 2) := by decide +kernel
theorem dX9_rubberFor_97 : decode cX9_rubberFor 97 = .ok (.istore 5, 2) := by decide +kernel
theorem dX9_rubberFor_99 : decode cX9_rubberFor 99 = .ok (.aload_n 0, 1) := by decide +kernel
theorem dX9_rubberFor_100 : decode cX9_rubberFor 100 = .ok (.invokevirtual 292, 3) := by decide +kernel
theorem dX9_rubberFor_103 : decode cX9_rubberFor 103 = .ok (.iinc 6 (-1), 3) := by decide +kernel
theorem dX9_rubberFor_106 : decode cX9_rubberFor 106 = .ok (.goto (-41), 3) := by decide +kernel
theorem dX9_rubberFor_109 : decode cX9_rubberFor 109 = .ok (.iload 5, 2) := by decide +kernel
theorem dX9_rubberFor_111 : decode cX9_rubberFor 111 = .ok (.ireturn, 1) := by decide +kernel
theorem dX9_ink_0 : decode cX9_ink 0 = .ok (.iload_n 1, 1) := by decide +kernel
theorem dX9_ink_1 : decode cX9_ink 1 = .ok (.ifCond .lt 7, 3) := by decide +kernel
theorem dX9_ink_4 : decode cX9_ink 4 = .ok (.iload_n 2, 1) := by decide +kernel
theorem dX9_ink_5 : decode cX9_ink 5 = .ok (.ifCond .ge 8, 3) := by decide +kernel
theorem dX9_ink_8 : decode cX9_ink 8 = .ok (.bipush (-4), 2) := by decide +kernel
theorem dX9_ink_10 : decode cX9_ink 10 = .ok (.goto 21, 3) := by decide +kernel
theorem dX9_ink_13 : decode cX9_ink 13 = .ok (.iload_n 1, 1) := by decide +kernel
theorem dX9_ink_14 : decode cX9_ink 14 = .ok (.bipush 39, 2) := by decide +kernel
theorem dX9_ink_16 : decode cX9_ink 16 = .ok (.if_icmp .gt 9, 3) := by decide +kernel
theorem dX9_ink_19 : decode cX9_ink 19 = .ok (.iload_n 2, 1) := by decide +kernel
theorem dX9_ink_20 : decode cX9_ink 20 = .ok (.bipush 30, 2) := by decide +kernel
theorem dX9_ink_22 : decode cX9_ink 22 = .ok (.if_icmp .le 8, 3) := by decide +kernel
theorem dX9_ink_25 : decode cX9_ink 25 = .ok (.bipush (-6), 2) := by decide +kernel
theorem dX9_ink_27 : decode cX9_ink 27 = .ok (.goto 4, 3) := by decide +kernel
theorem dX9_ink_30 : decode cX9_ink 30 = .ok (.iconst 0, 1) := by decide +kernel
theorem dX9_ink_31 : decode cX9_ink 31 = .ok (.istore_n 3, 1) := by decide +kernel
theorem dX9_ink_32 : decode cX9_ink 32 = .ok (.iload_n 3, 1) := by decide +kernel
theorem dX9_ink_33 : decode cX9_ink 33 = .ok (.ifCond .eq 9, 3) := by decide +kernel
theorem dX9_ink_36 : decode cX9_ink 36 = .ok (.aload_n 0, 1) := by decide +kernel
theorem dX9_ink_37 : decode cX9_ink 37 = .ok (.iload_n 3, 1) := by decide +kernel
theorem dX9_ink_38 : decode cX9_ink 38 = .ok (.invokevirtual 188, 3) := by decide +kernel
theorem dX9_ink_41 : decode cX9_ink 41 = .ok (.ireturn, 1) := by decide +kernel
theorem dX9_ink_42 : decode cX9_ink 42 = .ok (.bipush (-9), 2) := by decide +kernel
theorem dX9_ink_44 : decode cX9_ink 44 = .ok (.istore 4, 2) := by decide +kernel
theorem dX9_ink_46 : decode cX9_ink 46 = .ok (.iconst 0, 1) := by decide +kernel
theorem dX9_ink_47 : decode cX9_ink 47 = .ok (.istore 5, 2) := by decide +kernel
theorem dX9_ink_49 : decode cX9_ink 49 = .ok (.iload 5, 2) := by decide +kernel
theorem dX9_ink_51 : decode cX9_ink 51 = .ok (.iconst 1, 1) := by decide +kernel
theorem dX9_ink_52 : decode cX9_ink 52 = .ok (.aload_n 0, 1) := by decide +kernel
theorem dX9_ink_53 : decode cX9_ink 53 = .ok (.getfield 79, 3) := by decide +kernel
theorem dX9_ink_56 : decode cX9_ink 56 = .ok (.ishl, 1) := by decide +kernel
theorem dX9_ink_57 : decode cX9_ink 57 = .ok (.if_icmp .ge 65, 3) := by decide +kernel
theorem dX9_ink_60 : decode cX9_ink 60 = .ok (.iload 4, 2) := by decide +kernel
theorem dX9_ink_62 : decode cX9_ink 62 = .ok (.ifCond .lt 21, 3) := by decide +kernel
theorem dX9_ink_65 : decode cX9_ink 65 = .ok (.iload 5, 2) := by decide +kernel
theorem dX9_ink_67 : decode cX9_ink 67 = .ok (.i2l, 1) := by decide +kernel
theorem dX9_ink_68 : decode cX9_ink 68 = .ok (.invokestatic 113, 3) := by decide +kernel
theorem dX9_ink_71 : decode cX9_ink 71 = .ok (.iload 4, 2) := by decide +kernel
theorem dX9_ink_73 : decode cX9_ink 73 = .ok (.i2l, 1) := by decide +kernel
theorem dX9_ink_74 : decode cX9_ink 74 = .ok (.invokestatic 113, 3) := by decide +kernel
theorem dX9_ink_77 : decode cX9_ink 77 = .ok (.if_icmp .lt 6, 3) := by decide +kernel
theorem dX9_ink_80 : decode cX9_ink 80 = .ok (.goto 36, 3) := by decide +kernel
theorem dX9_ink_83 : decode cX9_ink 83 = .ok (.aload_n 0, 1) := by decide +kernel
theorem dX9_ink_84 : decode cX9_ink 84 = .ok (.invokevirtual 289, 3) := by decide +kernel
theorem dX9_ink_87 : decode cX9_ink 87 = .ok (.aload_n 0, 1) := by decide +kernel
theorem dX9_ink_88 : decode cX9_ink 88 = .ok (.iload 5, 2) := by decide +kernel
theorem dX9_ink_90 : decode cX9_ink 90 = .ok (.putfield 159, 3) := by decide +kernel
theorem dX9_ink_93 : decode cX9_ink 93 = .ok (.aload_n 0, 1) := by decide +kernel
theorem dX9_ink_94 : decode cX9_ink 94 = .ok (.iconst (-1), 1) := by decide +kernel
theorem dX9_ink_95 : decode cX9_ink 95 = .ok (.iload_n 1, 1) := by decide +kernel
theorem dX9_ink_96 : decode cX9_ink 96 = .ok (.iload_n 2, 1) := by decide +kernel
theorem dX9_ink_97 : decode cX9_ink 97 = .ok (.invokevirtual 307, 3) := by decide +kernel
theorem dX9_ink_100 : decode cX9_ink 100 = .ok (.ifCond .eq 8, 3) := by decide +kernel
theorem dX9_ink_103 : decode cX9_ink 103 = .ok (.iload 4, 2) := by decide +kernel
theorem dX9_ink_105 : decode cX9_ink 105 = .ok (.goto 5, 3) := by decide +kernel
theorem dX9_ink_108 : decode cX9_ink 108 = .ok (.iload 5, 2) := by decide +kernel
theorem dX9_ink_110 : decode cX9_ink 110 = .ok (.istore 4, 2) := by decide +kernel
theorem dX9_ink_112 : decode cX9_ink 112 = .ok (.aload_n 0, 1) := by decide +kernel
theorem dX9_ink_113 : decode cX9_ink 113 = .ok (.invokevirtual 292, 3) := by decide +kernel
theorem dX9_ink_116 : decode cX9_ink 116 = .ok (.iinc 5 1, 3) := by decide +kernel
theorem dX9_ink_119 : decode cX9_ink 119 = .ok (.goto (-70), 3) := by decide +kernel
theorem dX9_ink_122 : decode cX9_ink 122 = .ok (.iload 4, 2) := by decide +kernel
theorem dX9_ink_124 : decode cX9_ink 124 = .ok (.ireturn, 1) := by decide +kernel
theorem dX9_friendFor_0 : decode cX9_friendFor 0 = .ok (.aload_n 0, 1) := by decide +kernel
theorem dX9_friendFor_1 : decode cX9_friendFor 1 = .ok (.iload_n 1, 1) := by decide +kernel
theorem dX9_friendFor_2 : decode cX9_friendFor 2 = .ok (.invokevirtual 153, 3) := by decide +kernel
theorem dX9_friendFor_5 : decode cX9_friendFor 5 = .ok (.ifCond .eq 11, 3) := by decide +kernel
theorem dX9_friendFor_8 : decode cX9_friendFor 8 = .ok (.aload_n 0, 1) := by decide +kernel
theorem dX9_friendFor_9 : decode cX9_friendFor 9 = .ok (.iload_n 2, 1) := by decide +kernel
theorem dX9_friendFor_10 : decode cX9_friendFor 10 = .ok (.invokevirtual 153, 3) := by decide +kernel
theorem dX9_friendFor_13 : decode cX9_friendFor 13 = .ok (.ifCond .ne 7, 3) := by decide +kernel
theorem dX9_friendFor_16 : decode cX9_friendFor 16 = .ok (.iconst (-1), 1) := by decide +kernel
theorem dX9_friendFor_17 : decode cX9_friendFor 17 = .ok (.goto 10, 3) := by decide +kernel
theorem dX9_friendFor_20 : decode cX9_friendFor 20 = .ok (.iload_n 3, 1) := by decide +kernel
theorem dX9_friendFor_21 : decode cX9_friendFor 21 = .ok (.iconst 0, 1) := by decide +kernel
theorem dX9_friendFor_22 : decode cX9_friendFor 22 = .ok (.bipush 39, 2) := by decide +kernel
theorem dX9_friendFor_24 : decode cX9_friendFor 24 = .ok (.invokestatic 182, 3) := by decide +kernel
theorem dX9_friendFor_27 : decode cX9_friendFor 27 = .ok (.istore 5, 2) := by decide +kernel
theorem dX9_friendFor_29 : decode cX9_friendFor 29 = .ok (.iload 5, 2) := by decide +kernel
theorem dX9_friendFor_31 : decode cX9_friendFor 31 = .ok (.ifCond .ne 17, 3) := by decide +kernel
theorem dX9_friendFor_34 : decode cX9_friendFor 34 = .ok (.iload 4, 2) := by decide +kernel
theorem dX9_friendFor_36 : decode cX9_friendFor 36 = .ok (.iconst 0, 1) := by decide +kernel
theorem dX9_friendFor_37 : decode cX9_friendFor 37 = .ok (.iconst 1, 1) := by decide +kernel
theorem dX9_friendFor_38 : decode cX9_friendFor 38 = .ok (.invokestatic 82, 3) := by decide +kernel
theorem dX9_friendFor_41 : decode cX9_friendFor 41 = .ok (.ifCond .ne 7, 3) := by decide +kernel
theorem dX9_friendFor_44 : decode cX9_friendFor 44 = .ok (.bipush (-2), 2) := by decide +kernel
theorem dX9_friendFor_46 : decode cX9_friendFor 46 = .ok (.istore 5, 2) := by decide +kernel
theorem dX9_friendFor_48 : decode cX9_friendFor 48 = .ok (.iload 5, 2) := by decide +kernel
theorem dX9_friendFor_50 : decode cX9_friendFor 50 = .ok (.ifCond .eq 10, 3) := by decide +kernel
theorem dX9_friendFor_53 : decode cX9_friendFor 53 = .ok (.aload_n 0, 1) := by decide +kernel
theorem dX9_friendFor_54 : decode cX9_friendFor 54 = .ok (.iload 5, 2) := by decide +kernel
theorem dX9_friendFor_56 : decode cX9_friendFor 56 = .ok (.invokevirtual 188, 3) := by decide +kernel
theorem dX9_friendFor_59 : decode cX9_friendFor 59 = .ok (.ireturn, 1) := by decide +kernel
theorem dX9_friendFor_60 : decode cX9_friendFor 60 = .ok (.bipush (-9), 2) := by decide +kernel
theorem dX9_friendFor_62 : decode cX9_friendFor 62 = .ok (.istore 6, 2) := by decide +kernel
theorem dX9_friendFor_64 : decode cX9_friendFor 64 = .ok (.bipush (-9), 2) := by decide +kernel
theorem dX9_friendFor_66 : decode cX9_friendFor 66 = .ok (.istore 7, 2) := by decide +kernel
theorem dX9_friendFor_68 : decode cX9_friendFor 68 = .ok (.iconst 0, 1) := by decide +kernel
theorem dX9_friendFor_69 : decode cX9_friendFor 69 = .ok (.istore 8, 2) := by decide +kernel
theorem dX9_friendFor_71 : decode cX9_friendFor 71 = .ok (.iload 8, 2) := by decide +kernel
theorem dX9_friendFor_73 : decode cX9_friendFor 73 = .ok (.aload_n 0, 1) := by decide +kernel
theorem dX9_friendFor_74 : decode cX9_friendFor 74 = .ok (.getfield 79, 3) := by decide +kernel
theorem dX9_friendFor_77 : decode cX9_friendFor 77 = .ok (.if_icmp .ge 72, 3) := by decide +kernel
theorem dX9_friendFor_80 : decode cX9_friendFor 80 = .ok (.aload_n 0, 1) := by decide +kernel
theorem dX9_friendFor_81 : decode cX9_friendFor 81 = .ok (.invokevirtual 289, 3) := by decide +kernel
theorem dX9_friendFor_84 : decode cX9_friendFor 84 = .ok (.aload_n 0, 1) := by decide +kernel
theorem dX9_friendFor_85 : decode cX9_friendFor 85 = .ok (.getfield 19, 3) := by decide +kernel
theorem dX9_friendFor_88 : decode cX9_friendFor 88 = .ok (.iload_n 1, 1) := by decide +kernel
theorem dX9_friendFor_89 : decode cX9_friendFor 89 = .ok (.iload 8, 2) := by decide +kernel
theorem dX9_friendFor_91 : decode cX9_friendFor 91 = .ok (.iastore, 1) := by decide +kernel
theorem dX9_friendFor_92 : decode cX9_friendFor 92 = .ok (.iload 8, 2) := by decide +kernel
theorem dX9_friendFor_94 : decode cX9_friendFor 94 = .ok (.iload_n 1, 1) := by decide +kernel
theorem dX9_friendFor_95 : decode cX9_friendFor 95 = .ok (.if_icmp .ne 8, 3) := by decide +kernel
theorem dX9_friendFor_98 : decode cX9_friendFor 98 = .ok (.bipush (-9), 2) := by decide +kernel
theorem dX9_friendFor_100 : decode cX9_friendFor 100 = .ok (.goto 9, 3) := by decide +kernel
theorem dX9_friendFor_103 : decode cX9_friendFor 103 = .ok (.aload_n 0, 1) := by decide +kernel
theorem dX9_friendFor_104 : decode cX9_friendFor 104 = .ok (.iload_n 2, 1) := by decide +kernel
theorem dX9_friendFor_105 : decode cX9_friendFor 105 = .ok (.iload_n 3, 1) := by decide +kernel
theorem dX9_friendFor_106 : decode cX9_friendFor 106 = .ok (.invokevirtual 301, 3) := by decide +kernel
theorem dX9_friendFor_109 : decode cX9_friendFor 109 = .ok (.istore 9, 2) := by decide +kernel
theorem dX9_friendFor_111 : decode cX9_friendFor 111 = .ok (.aload_n 0, 1) := by decide +kernel
theorem dX9_friendFor_112 : decode cX9_friendFor 112 = .ok (.invokevirtual 292, 3) := by decide +kernel
theorem dX9_friendFor_115 : decode cX9_friendFor 115 = .ok (.iload 9, 2) := by decide +kernel
theorem dX9_friendFor_117 : decode cX9_friendFor 117 = .ok (.ifCond .lt 26, 3) := by decide +kernel
theorem dX9_friendFor_120 : decode cX9_friendFor 120 = .ok (.iload 6, 2) := by decide +kernel
theorem dX9_friendFor_122 : decode cX9_friendFor 122 = .ok (.ifCond .lt 13, 3) := by decide +kernel
theorem dX9_friendFor_125 : decode cX9_friendFor 125 = .ok (.iload 9, 2) := by decide +kernel
theorem dX9_friendFor_127 : decode cX9_friendFor 127 = .ok (.iload 7, 2) := by decide +kernel
theorem dX9_friendFor_129 : decode cX9_friendFor 129 = .ok (.if_icmp .lt 6, 3) := by decide +kernel
theorem dX9_friendFor_132 : decode cX9_friendFor 132 = .ok (.goto 11, 3) := by decide +kernel
theorem dX9_friendFor_135 : decode cX9_friendFor 135 = .ok (.iload 8, 2) := by decide +kernel
theorem dX9_friendFor_137 : decode cX9_friendFor 137 = .ok (.istore 6, 2) := by decide +kernel
theorem dX9_friendFor_139 : decode cX9_friendFor 139 = .ok (.iload 9, 2) := by decide +kernel
theorem dX9_friendFor_141 : decode cX9_friendFor 141 = .ok (.istore 7, 2) := by decide +kernel
theorem dX9_friendFor_143 : decode cX9_friendFor 143 = .ok (.iinc 8 1, 3) := by decide +kernel
theorem dX9_friendFor_146 : decode cX9_friendFor 146 = .ok (.goto (-75), 3) := by decide +kernel
theorem dX9_friendFor_149 : decode cX9_friendFor 149 = .ok (.iload 4, 2) := by decide +kernel
theorem dX9_friendFor_151 : decode cX9_friendFor 151 = .ok (.ifCond .ne 8, 3) := by decide +kernel
theorem dX9_friendFor_154 : decode cX9_friendFor 154 = .ok (.iload 6, 2) := by decide +kernel
theorem dX9_friendFor_156 : decode cX9_friendFor 156 = .ok (.goto 5, 3) := by decide +kernel
theorem dX9_friendFor_159 : decode cX9_friendFor 159 = .ok (.iload 7, 2) := by decide +kernel
theorem dX9_friendFor_161 : decode cX9_friendFor 161 = .ok (.ireturn, 1) := by decide +kernel
theorem dX9_allKnownBehind_0 : decode cX9_allKnownBehind 0 = .ok (.aload_n 0, 1) := by decide +kernel
theorem dX9_allKnownBehind_1 : decode cX9_allKnownBehind 1 = .ok (.iload_n 1, 1) := by decide +kernel
theorem dX9_allKnownBehind_2 : decode cX9_allKnownBehind 2 = .ok (.invokevirtual 217, 3) := by decide +kernel
theorem dX9_allKnownBehind_5 : decode cX9_allKnownBehind 5 = .ok (.aload_n 0, 1) := by decide +kernel
theorem dX9_allKnownBehind_6 : decode cX9_allKnownBehind 6 = .ok (.invokevirtual 298, 3) := by decide +kernel
theorem dX9_allKnownBehind_9 : decode cX9_allKnownBehind 9 = .ok (.ireturn, 1) := by decide +kernel
theorem dX9_changesFor_0 : decode cX9_changesFor 0 = .ok (.aload_n 1, 1) := by decide +kernel
theorem dX9_changesFor_1 : decode cX9_changesFor 1 = .ok (.iload_n 2, 1) := by decide +kernel
theorem dX9_changesFor_2 : decode cX9_changesFor 2 = .ok (.iaload, 1) := by decide +kernel
theorem dX9_changesFor_3 : decode cX9_changesFor 3 = .ok (.istore 4, 2) := by decide +kernel
theorem dX9_changesFor_5 : decode cX9_changesFor 5 = .ok (.aload_n 1, 1) := by decide +kernel
theorem dX9_changesFor_6 : decode cX9_changesFor 6 = .ok (.iload_n 2, 1) := by decide +kernel
theorem dX9_changesFor_7 : decode cX9_changesFor 7 = .ok (.aload_n 1, 1) := by decide +kernel
theorem dX9_changesFor_8 : decode cX9_changesFor 8 = .ok (.iload_n 3, 1) := by decide +kernel
theorem dX9_changesFor_9 : decode cX9_changesFor 9 = .ok (.iaload, 1) := by decide +kernel
theorem dX9_changesFor_10 : decode cX9_changesFor 10 = .ok (.iastore, 1) := by decide +kernel
theorem dX9_changesFor_11 : decode cX9_changesFor 11 = .ok (.aload_n 1, 1) := by decide +kernel
theorem dX9_changesFor_12 : decode cX9_changesFor 12 = .ok (.iload_n 3, 1) := by decide +kernel
theorem dX9_changesFor_13 : decode cX9_changesFor 13 = .ok (.iload 4, 2) := by decide +kernel
theorem dX9_changesFor_15 : decode cX9_changesFor 15 = .ok (.iastore, 1) := by decide +kernel
theorem dX9_changesFor_16 : decode cX9_changesFor 16 = .ok (.return_, 1) := by decide +kernel
theorem dX9_swap_0 : decode cX9_swap 0 = .ok (.iload_n 1, 1) := by decide +kernel
theorem dX9_swap_1 : decode cX9_swap 1 = .ok (.iconst 0, 1) := by decide +kernel
theorem dX9_swap_2 : decode cX9_swap 2 = .ok (.bipush 30, 2) := by decide +kernel
theorem dX9_swap_4 : decode cX9_swap 4 = .ok (.invokestatic 182, 3) := by decide +kernel
theorem dX9_swap_7 : decode cX9_swap 7 = .ok (.istore_n 2, 1) := by decide +kernel
theorem dX9_swap_8 : decode cX9_swap 8 = .ok (.iload_n 2, 1) := by decide +kernel
theorem dX9_swap_9 : decode cX9_swap 9 = .ok (.ifCond .eq 9, 3) := by decide +kernel
theorem dX9_swap_12 : decode cX9_swap 12 = .ok (.aload_n 0, 1) := by decide +kernel
theorem dX9_swap_13 : decode cX9_swap 13 = .ok (.iload_n 2, 1) := by decide +kernel
theorem dX9_swap_14 : decode cX9_swap 14 = .ok (.invokevirtual 188, 3) := by decide +kernel
theorem dX9_swap_17 : decode cX9_swap 17 = .ok (.ireturn, 1) := by decide +kernel
theorem dX9_swap_18 : decode cX9_swap 18 = .ok (.aload_n 0, 1) := by decide +kernel
theorem dX9_swap_19 : decode cX9_swap 19 = .ok (.invokevirtual 289, 3) := by decide +kernel
theorem dX9_swap_22 : decode cX9_swap 22 = .ok (.aload_n 0, 1) := by decide +kernel
theorem dX9_swap_23 : decode cX9_swap 23 = .ok (.iload_n 1, 1) := by decide +kernel
theorem dX9_swap_24 : decode cX9_swap 24 = .ok (.invokevirtual 310, 3) := by decide +kernel
theorem dX9_swap_27 : decode cX9_swap 27 = .ok (.istore_n 3, 1) := by decide +kernel
theorem dX9_swap_28 : decode cX9_swap 28 = .ok (.aload_n 0, 1) := by decide +kernel
theorem dX9_swap_29 : decode cX9_swap 29 = .ok (.invokevirtual 292, 3) := by decide +kernel
theorem dX9_swap_32 : decode cX9_swap 32 = .ok (.bipush (-9), 2) := by decide +kernel
theorem dX9_swap_34 : decode cX9_swap 34 = .ok (.istore 4, 2) := by decide +kernel
theorem dX9_swap_36 : decode cX9_swap 36 = .ok (.iconst 0, 1) := by decide +kernel
theorem dX9_swap_37 : decode cX9_swap 37 = .ok (.istore 5, 2) := by decide +kernel
theorem dX9_swap_39 : decode cX9_swap 39 = .ok (.iload 5, 2) := by decide +kernel
theorem dX9_swap_41 : decode cX9_swap 41 = .ok (.aload_n 0, 1) := by decide +kernel
theorem dX9_swap_42 : decode cX9_swap 42 = .ok (.getfield 79, 3) := by decide +kernel
theorem dX9_swap_45 : decode cX9_swap 45 = .ok (.if_icmp .ge 91, 3) := by decide +kernel
theorem dX9_swap_48 : decode cX9_swap 48 = .ok (.iload 5, 2) := by decide +kernel
theorem dX9_swap_50 : decode cX9_swap 50 = .ok (.iconst 1, 1) := by decide +kernel
theorem dX9_swap_51 : decode cX9_swap 51 = .ok (.iadd, 1) := by decide +kernel
theorem dX9_swap_52 : decode cX9_swap 52 = .ok (.istore 6, 2) := by decide +kernel
theorem dX9_swap_54 : decode cX9_swap 54 = .ok (.iload 6, 2) := by decide +kernel
theorem dX9_swap_56 : decode cX9_swap 56 = .ok (.aload_n 0, 1) := by decide +kernel
theorem dX9_swap_57 : decode cX9_swap 57 = .ok (.getfield 79, 3) := by decide +kernel
theorem dX9_swap_60 : decode cX9_swap 60 = .ok (.if_icmp .ge 70, 3) := by decide +kernel
theorem dX9_swap_63 : decode cX9_swap 63 = .ok (.aload_n 0, 1) := by decide +kernel
theorem dX9_swap_64 : decode cX9_swap 64 = .ok (.invokevirtual 289, 3) := by decide +kernel
theorem dX9_swap_67 : decode cX9_swap 67 = .ok (.aload_n 0, 1) := by decide +kernel
theorem dX9_swap_68 : decode cX9_swap 68 = .ok (.aload_n 0, 1) := by decide +kernel
theorem dX9_swap_69 : decode cX9_swap 69 = .ok (.getfield 13, 3) := by decide +kernel
theorem dX9_swap_72 : decode cX9_swap 72 = .ok (.iload 5, 2) := by decide +kernel
theorem dX9_swap_74 : decode cX9_swap 74 = .ok (.iload 6, 2) := by decide +kernel
theorem dX9_swap_76 : decode cX9_swap 76 = .ok (.invokevirtual 313, 3) := by decide +kernel
theorem dX9_swap_79 : decode cX9_swap 79 = .ok (.aload_n 0, 1) := by decide +kernel
theorem dX9_swap_80 : decode cX9_swap 80 = .ok (.aload_n 0, 1) := by decide +kernel
theorem dX9_swap_81 : decode cX9_swap 81 = .ok (.getfield 16, 3) := by decide +kernel
theorem dX9_swap_84 : decode cX9_swap 84 = .ok (.iload 5, 2) := by decide +kernel
theorem dX9_swap_86 : decode cX9_swap 86 = .ok (.iload 6, 2) := by decide +kernel
theorem dX9_swap_88 : decode cX9_swap 88 = .ok (.invokevirtual 313, 3) := by decide +kernel
theorem dX9_swap_91 : decode cX9_swap 91 = .ok (.aload_n 0, 1) := by decide +kernel
theorem dX9_swap_92 : decode cX9_swap 92 = .ok (.iload_n 1, 1) := by decide +kernel
theorem dX9_swap_93 : decode cX9_swap 93 = .ok (.invokevirtual 310, 3) := by decide +kernel
theorem dX9_swap_96 : decode cX9_swap 96 = .ok (.istore 7, 2) := by decide +kernel
theorem dX9_swap_98 : decode cX9_swap 98 = .ok (.aload_n 0, 1) := by decide +kernel
theorem dX9_swap_99 : decode cX9_swap 99 = .ok (.invokevirtual 292, 3) := by decide +kernel
theorem dX9_swap_102 : decode cX9_swap 102 = .ok (.iload 7, 2) := by decide +kernel
theorem dX9_swap_104 : decode cX9_swap 104 = .ok (.iload_n 3, 1) := by decide +kernel
theorem dX9_swap_105 : decode cX9_swap 105 = .ok (.if_icmp .gt 6, 3) := by decide +kernel
theorem dX9_swap_108 : decode cX9_swap 108 = .ok (.goto 16, 3) := by decide +kernel
theorem dX9_swap_111 : decode cX9_swap 111 = .ok (.bipush 10, 2) := by decide +kernel
theorem dX9_swap_113 : decode cX9_swap 113 = .ok (.iload 5, 2) := by decide +kernel
theorem dX9_swap_115 : decode cX9_swap 115 = .ok (.imul, 1) := by decide +kernel
theorem dX9_swap_116 : decode cX9_swap 116 = .ok (.iload 6, 2) := by decide +kernel
theorem dX9_swap_118 : decode cX9_swap 118 = .ok (.iadd, 1) := by decide +kernel
theorem dX9_swap_119 : decode cX9_swap 119 = .ok (.istore 4, 2) := by decide +kernel
theorem dX9_swap_121 : decode cX9_swap 121 = .ok (.iload 7, 2) := by decide +kernel
theorem dX9_swap_123 : decode cX9_swap 123 = .ok (.istore_n 3, 1) := by decide +kernel
theorem dX9_swap_124 : decode cX9_swap 124 = .ok (.iinc 6 1, 3) := by decide +kernel
theorem dX9_swap_127 : decode cX9_swap 127 = .ok (.goto (-73), 3) := by decide +kernel
theorem dX9_swap_130 : decode cX9_swap 130 = .ok (.iinc 5 1, 3) := by decide +kernel
theorem dX9_swap_133 : decode cX9_swap 133 = .ok (.goto (-94), 3) := by decide +kernel
theorem dX9_swap_136 : decode cX9_swap 136 = .ok (.iload 4, 2) := by decide +kernel
theorem dX9_swap_138 : decode cX9_swap 138 = .ok (.ireturn, 1) := by decide +kernel
theorem dX9_shade_0 : decode cX9_shade 0 = .ok (.iload_n 1, 1) := by decide +kernel
theorem dX9_shade_1 : decode cX9_shade 1 = .ok (.iconst 0, 1) := by decide +kernel
theorem dX9_shade_2 : decode cX9_shade 2 = .ok (.bipush 60, 2) := by decide +kernel
theorem dX9_shade_4 : decode cX9_shade 4 = .ok (.invokestatic 182, 3) := by decide +kernel
theorem dX9_shade_7 : decode cX9_shade 7 = .ok (.istore_n 2, 1) := by decide +kernel
theorem dX9_shade_8 : decode cX9_shade 8 = .ok (.iload_n 2, 1) := by decide +kernel
theorem dX9_shade_9 : decode cX9_shade 9 = .ok (.ifCond .eq 9, 3) := by decide +kernel
theorem dX9_shade_12 : decode cX9_shade 12 = .ok (.aload_n 0, 1) := by decide +kernel
theorem dX9_shade_13 : decode cX9_shade 13 = .ok (.iload_n 2, 1) := by decide +kernel
theorem dX9_shade_14 : decode cX9_shade 14 = .ok (.invokevirtual 317, 3) := by decide +kernel
theorem dX9_shade_17 : decode cX9_shade 17 = .ok (.ireturn, 1) := by decide +kernel
theorem dX9_shade_18 : decode cX9_shade 18 = .ok (.aload_n 0, 1) := by decide +kernel
theorem dX9_shade_19 : decode cX9_shade 19 = .ok (.iconst (-1), 1) := by decide +kernel
theorem dX9_shade_20 : decode cX9_shade 20 = .ok (.iload_n 1, 1) := by decide +kernel
theorem dX9_shade_21 : decode cX9_shade 21 = .ok (.invokevirtual 295, 3) := by decide +kernel
theorem dX9_shade_24 : decode cX9_shade 24 = .ok (.istore_n 3, 1) := by decide +kernel
theorem dX9_shade_25 : decode cX9_shade 25 = .ok (.aload_n 0, 1) := by decide +kernel
theorem dX9_shade_26 : decode cX9_shade 26 = .ok (.iconst 1, 1) := by decide +kernel
theorem dX9_shade_27 : decode cX9_shade 27 = .ok (.putfield 103, 3) := by decide +kernel
theorem dX9_shade_30 : decode cX9_shade 30 = .ok (.iload_n 3, 1) := by decide +kernel
theorem dX9_shade_31 : decode cX9_shade 31 = .ok (.aload_n 0, 1) := by decide +kernel
theorem dX9_shade_32 : decode cX9_shade 32 = .ok (.iconst (-1), 1) := by decide +kernel
theorem dX9_shade_33 : decode cX9_shade 33 = .ok (.iload_n 1, 1) := by decide +kernel
theorem dX9_shade_34 : decode cX9_shade 34 = .ok (.invokevirtual 295, 3) := by decide +kernel
theorem dX9_shade_37 : decode cX9_shade 37 = .ok (.isub, 1) := by decide +kernel
theorem dX9_shade_38 : decode cX9_shade 38 = .ok (.ireturn, 1) := by decide +kernel
theorem dX9_isLedSo_0 : decode cX9_isLedSo 0 = .ok (.iconst 0, 1) := by decide +kernel
theorem dX9_isLedSo_1 : decode cX9_isLedSo 1 = .ok (.istore_n 3, 1) := by decide +kernel
theorem dX9_isLedSo_2 : decode cX9_isLedSo 2 = .ok (.iload_n 3, 1) := by decide +kernel
theorem dX9_isLedSo_3 : decode cX9_isLedSo 3 = .ok (.aload_n 0, 1) := by decide +kernel
theorem dX9_isLedSo_4 : decode cX9_isLedSo 4 = .ok (.getfield 320, 3) := by decide +kernel
theorem dX9_isLedSo_7 : decode cX9_isLedSo 7 = .ok (.if_icmp .ge 33, 3) := by decide +kernel
theorem dX9_isLedSo_10 : decode cX9_isLedSo 10 = .ok (.iload_n 1, 1) := by decide +kernel
theorem dX9_isLedSo_11 : decode cX9_isLedSo 11 = .ok (.iload_n 2, 1) := by decide +kernel
theorem dX9_isLedSo_12 : decode cX9_isLedSo 12 = .ok (.aload_n 0, 1) := by decide +kernel
theorem dX9_isLedSo_13 : decode cX9_isLedSo 13 = .ok (.getfield 147, 3) := by decide +kernel
theorem dX9_isLedSo_16 : decode cX9_isLedSo 16 = .ok (.iconst 1, 1) := by decide +kernel
theorem dX9_isLedSo_17 : decode cX9_isLedSo 17 = .ok (.iadd, 1) := by decide +kernel
theorem dX9_isLedSo_18 : decode cX9_isLedSo 18 = .ok (.iload_n 3, 1) := by decide +kernel
theorem dX9_isLedSo_19 : decode cX9_isLedSo 19 = .ok (.iadd, 1) := by decide +kernel
theorem dX9_isLedSo_20 : decode cX9_isLedSo 20 = .ok (.invokestatic 162, 3) := by decide +kernel
theorem dX9_isLedSo_23 : decode cX9_isLedSo 23 = .ok (.aload_n 0, 1) := by decide +kernel
theorem dX9_isLedSo_24 : decode cX9_isLedSo 24 = .ok (.getfield 62, 3) := by decide +kernel
theorem dX9_isLedSo_27 : decode cX9_isLedSo 27 = .ok (.iload_n 3, 1) := by decide +kernel
theorem dX9_isLedSo_28 : decode cX9_isLedSo 28 = .ok (.iaload, 1) := by decide +kernel
theorem dX9_isLedSo_29 : decode cX9_isLedSo 29 = .ok (.if_icmp .eq 5, 3) := by decide +kernel
theorem dX9_isLedSo_32 : decode cX9_isLedSo 32 = .ok (.iconst 0, 1) := by decide +kernel
theorem dX9_isLedSo_33 : decode cX9_isLedSo 33 = .ok (.ireturn, 1) := by decide +kernel
theorem dX9_isLedSo_34 : decode cX9_isLedSo 34 = .ok (.iinc 3 1, 3) := by decide +kernel
theorem dX9_isLedSo_37 : decode cX9_isLedSo 37 = .ok (.goto (-35), 3) := by decide +kernel
theorem dX9_isLedSo_40 : decode cX9_isLedSo 40 = .ok (.iconst 1, 1) := by decide +kernel
theorem dX9_isLedSo_41 : decode cX9_isLedSo 41 = .ok (.ireturn, 1) := by decide +kernel
theorem dX9_whatKind_0 : decode cX9_whatKind 0 = .ok (.aload_n 0, 1) := by decide +kernel
theorem dX9_whatKind_1 : decode cX9_whatKind 1 = .ok (.iload_n 1, 1) := by decide +kernel
theorem dX9_whatKind_2 : decode cX9_whatKind 2 = .ok (.invokevirtual 153, 3) := by decide +kernel
theorem dX9_whatKind_5 : decode cX9_whatKind 5 = .ok (.ifCond .ne 7, 3) := by decide +kernel
theorem dX9_whatKind_8 : decode cX9_whatKind 8 = .ok (.iconst (-1), 1) := by decide +kernel
theorem dX9_whatKind_9 : decode cX9_whatKind 9 = .ok (.goto 18, 3) := by decide +kernel
theorem dX9_whatKind_12 : decode cX9_whatKind 12 = .ok (.iload_n 2, 1) := by decide +kernel
theorem dX9_whatKind_13 : decode cX9_whatKind 13 = .ok (.iconst 0, 1) := by decide +kernel
theorem dX9_whatKind_14 : decode cX9_whatKind 14 = .ok (.iconst 1, 1) := by decide +kernel
theorem dX9_whatKind_15 : decode cX9_whatKind 15 = .ok (.invokestatic 82, 3) := by decide +kernel
theorem dX9_whatKind_18 : decode cX9_whatKind 18 = .ok (.ifCond .ne 8, 3) := by decide +kernel
theorem dX9_whatKind_21 : decode cX9_whatKind 21 = .ok (.bipush (-2), 2) := by decide +kernel
theorem dX9_whatKind_23 : decode cX9_whatKind 23 = .ok (.goto 4, 3) := by decide +kernel
theorem dX9_whatKind_26 : decode cX9_whatKind 26 = .ok (.iconst 0, 1) := by decide +kernel
theorem dX9_whatKind_27 : decode cX9_whatKind 27 = .ok (.istore_n 3, 1) := by decide +kernel
theorem dX9_whatKind_28 : decode cX9_whatKind 28 = .ok (.iload_n 3, 1) := by decide +kernel
theorem dX9_whatKind_29 : decode cX9_whatKind 29 = .ok (.ifCond .eq 9, 3) := by decide +kernel
theorem dX9_whatKind_32 : decode cX9_whatKind 32 = .ok (.aload_n 0, 1) := by decide +kernel
theorem dX9_whatKind_33 : decode cX9_whatKind 33 = .ok (.iload_n 3, 1) := by decide +kernel
theorem dX9_whatKind_34 : decode cX9_whatKind 34 = .ok (.invokevirtual 188, 3) := by decide +kernel
theorem dX9_whatKind_37 : decode cX9_whatKind 37 = .ok (.ireturn, 1) := by decide +kernel
theorem dX9_whatKind_38 : decode cX9_whatKind 38 = .ok (.iconst 0, 1) := by decide +kernel
theorem dX9_whatKind_39 : decode cX9_whatKind 39 = .ok (.istore 4, 2) := by decide +kernel
theorem dX9_whatKind_41 : decode cX9_whatKind 41 = .ok (.iconst 0, 1) := by decide +kernel
theorem dX9_whatKind_42 : decode cX9_whatKind 42 = .ok (.istore 5, 2) := by decide +kernel
theorem dX9_whatKind_44 : decode cX9_whatKind 44 = .ok (.iload 5, 2) := by decide +kernel
theorem dX9_whatKind_46 : decode cX9_whatKind 46 = .ok (.iload_n 2, 1) := by decide +kernel
theorem dX9_whatKind_47 : decode cX9_whatKind 47 = .ok (.ifCond .ne 8, 3) := by decide +kernel
theorem dX9_whatKind_50 : decode cX9_whatKind 50 = .ok (.bipush 8, 2) := by decide +kernel
theorem dX9_whatKind_52 : decode cX9_whatKind 52 = .ok (.goto 5, 3) := by decide +kernel
theorem dX9_whatKind_55 : decode cX9_whatKind 55 = .ok (.bipush 10, 2) := by decide +kernel
theorem dX9_whatKind_57 : decode cX9_whatKind 57 = .ok (.if_icmp .ge 60, 3) := by decide +kernel
theorem dX9_whatKind_60 : decode cX9_whatKind 60 = .ok (.iload_n 2, 1) := by decide +kernel
theorem dX9_whatKind_61 : decode cX9_whatKind 61 = .ok (.ifCond .ne 18, 3) := by decide +kernel
theorem dX9_whatKind_64 : decode cX9_whatKind 64 = .ok (.aload_n 0, 1) := by decide +kernel
theorem dX9_whatKind_65 : decode cX9_whatKind 65 = .ok (.iload 5, 2) := by decide +kernel
theorem dX9_whatKind_67 : decode cX9_whatKind 67 = .ok (.aload_n 0, 1) := by decide +kernel
theorem dX9_whatKind_68 : decode cX9_whatKind 68 = .ok (.getfield 16, 3) := by decide +kernel
theorem dX9_whatKind_71 : decode cX9_whatKind 71 = .ok (.iload_n 1, 1) := by decide +kernel
theorem dX9_whatKind_72 : decode cX9_whatKind 72 = .ok (.iaload, 1) := by decide +kernel
theorem dX9_whatKind_73 : decode cX9_whatKind 73 = .ok (.invokevirtual 323, 3) := by decide +kernel
theorem dX9_whatKind_76 : decode cX9_whatKind 76 = .ok (.goto 15, 3) := by decide +kernel
theorem dX9_whatKind_79 : decode cX9_whatKind 79 = .ok (.aload_n 0, 1) := by decide +kernel
theorem dX9_whatKind_80 : decode cX9_whatKind 80 = .ok (.aload_n 0, 1) := by decide +kernel
theorem dX9_whatKind_81 : decode cX9_whatKind 81 = .ok (.getfield 13, 3) := by decide +kernel
theorem dX9_whatKind_84 : decode cX9_whatKind 84 = .ok (.iload_n 1, 1) := by decide +kernel
theorem dX9_whatKind_85 : decode cX9_whatKind 85 = .ok (.iaload, 1) := by decide +kernel
theorem dX9_whatKind_86 : decode cX9_whatKind 86 = .ok (.iload 5, 2) := by decide +kernel
theorem dX9_whatKind_88 : decode cX9_whatKind 88 = .ok (.invokevirtual 323, 3) := by decide +kernel
theorem dX9_whatKind_91 : decode cX9_whatKind 91 = .ok (.istore 6, 2) := by decide +kernel
theorem dX9_whatKind_93 : decode cX9_whatKind 93 = .ok (.iload 4, 2) := by decide +kernel
theorem dX9_whatKind_95 : decode cX9_whatKind 95 = .ok (.iload 6, 2) := by decide +kernel
theorem dX9_whatKind_97 : decode cX9_whatKind 97 = .ok (.ifCond .eq 10, 3) := by decide +kernel
theorem dX9_whatKind_100 : decode cX9_whatKind 100 = .ok (.iconst 1, 1) := by decide +kernel
theorem dX9_whatKind_101 : decode cX9_whatKind 101 = .ok (.iload 5, 2) := by decide +kernel
theorem dX9_whatKind_103 : decode cX9_whatKind 103 = .ok (.ishl, 1) := by decide +kernel
theorem dX9_whatKind_104 : decode cX9_whatKind 104 = .ok (.goto 4, 3) := by decide +kernel
theorem dX9_whatKind_107 : decode cX9_whatKind 107 = .ok (.iconst 0, 1) := by decide +kernel
theorem dX9_whatKind_108 : decode cX9_whatKind 108 = .ok (.ior, 1) := by decide +kernel
theorem dX9_whatKind_109 : decode cX9_whatKind 109 = .ok (.istore 4, 2) := by decide +kernel
theorem dX9_whatKind_111 : decode cX9_whatKind 111 = .ok (.iinc 5 1, 3) := by decide +kernel
theorem dX9_whatKind_114 : decode cX9_whatKind 114 = .ok (.goto (-70), 3) := by decide +kernel
theorem dX9_whatKind_117 : decode cX9_whatKind 117 = .ok (.iload 4, 2) := by decide +kernel
theorem dX9_whatKind_119 : decode cX9_whatKind 119 = .ok (.ireturn, 1) := by decide +kernel
theorem dX9_isKnownSo_0 : decode cX9_isKnownSo 0 = .ok (.iconst 0, 1) := by decide +kernel
theorem dX9_isKnownSo_1 : decode cX9_isKnownSo 1 = .ok (.istore_n 2, 1) := by decide +kernel
theorem dX9_isKnownSo_2 : decode cX9_isKnownSo 2 = .ok (.iload_n 2, 1) := by decide +kernel
theorem dX9_isKnownSo_3 : decode cX9_isKnownSo 3 = .ok (.aload_n 0, 1) := by decide +kernel
theorem dX9_isKnownSo_4 : decode cX9_isKnownSo 4 = .ok (.getfield 320, 3) := by decide +kernel
theorem dX9_isKnownSo_7 : decode cX9_isKnownSo 7 = .ok (.if_icmp .ge 33, 3) := by decide +kernel
theorem dX9_isKnownSo_10 : decode cX9_isKnownSo 10 = .ok (.aload_n 0, 1) := by decide +kernel
theorem dX9_isKnownSo_11 : decode cX9_isKnownSo 11 = .ok (.getfield 34, 3) := by decide +kernel
theorem dX9_isKnownSo_14 : decode cX9_isKnownSo 14 = .ok (.iload_n 1, 1) := by decide +kernel
theorem dX9_isKnownSo_15 : decode cX9_isKnownSo 15 = .ok (.laload, 1) := by decide +kernel
theorem dX9_isKnownSo_16 : decode cX9_isKnownSo 16 = .ok (.invokestatic 113, 3) := by decide +kernel
theorem dX9_isKnownSo_19 : decode cX9_isKnownSo 19 = .ok (.aload_n 0, 1) := by decide +kernel
theorem dX9_isKnownSo_20 : decode cX9_isKnownSo 20 = .ok (.getfield 62, 3) := by decide +kernel
theorem dX9_isKnownSo_23 : decode cX9_isKnownSo 23 = .ok (.iload_n 2, 1) := by decide +kernel
theorem dX9_isKnownSo_24 : decode cX9_isKnownSo 24 = .ok (.iaload, 1) := by decide +kernel
theorem dX9_isKnownSo_25 : decode cX9_isKnownSo 25 = .ok (.if_icmp .eq 5, 3) := by decide +kernel
theorem dX9_isKnownSo_28 : decode cX9_isKnownSo 28 = .ok (.iconst 0, 1) := by decide +kernel
theorem dX9_isKnownSo_29 : decode cX9_isKnownSo 29 = .ok (.ireturn, 1) := by decide +kernel
theorem dX9_isKnownSo_30 : decode cX9_isKnownSo 30 = .ok (.aload_n 0, 1) := by decide +kernel
theorem dX9_isKnownSo_31 : decode cX9_isKnownSo 31 = .ok (.invokevirtual 179, 3) := by decide +kernel
theorem dX9_isKnownSo_34 : decode cX9_isKnownSo 34 = .ok (.iinc 2 1, 3) := by decide +kernel
theorem dX9_isKnownSo_37 : decode cX9_isKnownSo 37 = .ok (.goto (-35), 3) := by decide +kernel
theorem dX9_isKnownSo_40 : decode cX9_isKnownSo 40 = .ok (.iconst 1, 1) := by decide +kernel
theorem dX9_isKnownSo_41 : decode cX9_isKnownSo 41 = .ok (.ireturn, 1) := by decide +kernel
theorem dX9_toWhom_0 : decode cX9_toWhom 0 = .ok (.aload_n 0, 1) := by decide +kernel
theorem dX9_toWhom_1 : decode cX9_toWhom 1 = .ok (.iload_n 1, 1) := by decide +kernel
theorem dX9_toWhom_2 : decode cX9_toWhom 2 = .ok (.invokevirtual 153, 3) := by decide +kernel
theorem dX9_toWhom_5 : decode cX9_toWhom 5 = .ok (.ifCond .eq 11, 3) := by decide +kernel
theorem dX9_toWhom_8 : decode cX9_toWhom 8 = .ok (.aload_n 0, 1) := by decide +kernel
theorem dX9_toWhom_9 : decode cX9_toWhom 9 = .ok (.iload_n 2, 1) := by decide +kernel
theorem dX9_toWhom_10 : decode cX9_toWhom 10 = .ok (.invokevirtual 153, 3) := by decide +kernel
theorem dX9_toWhom_13 : decode cX9_toWhom 13 = .ok (.ifCond .ne 9, 3) := by decide +kernel
theorem dX9_toWhom_16 : decode cX9_toWhom 16 = .ok (.aload_n 0, 1) := by decide +kernel
theorem dX9_toWhom_17 : decode cX9_toWhom 17 = .ok (.iconst (-1), 1) := by decide +kernel
theorem dX9_toWhom_18 : decode cX9_toWhom 18 = .ok (.invokevirtual 188, 3) := by decide +kernel
theorem dX9_toWhom_21 : decode cX9_toWhom 21 = .ok (.ireturn, 1) := by decide +kernel
theorem dX9_toWhom_22 : decode cX9_toWhom 22 = .ok (.iconst 0, 1) := by decide +kernel
theorem dX9_toWhom_23 : decode cX9_toWhom 23 = .ok (.istore_n 3, 1) := by decide +kernel
theorem dX9_toWhom_24 : decode cX9_toWhom 24 = .ok (.iconst 0, 1) := by decide +kernel
theorem dX9_toWhom_25 : decode cX9_toWhom 25 = .ok (.istore 4, 2) := by decide +kernel
theorem dX9_toWhom_27 : decode cX9_toWhom 27 = .ok (.iload 4, 2) := by decide +kernel
theorem dX9_toWhom_29 : decode cX9_toWhom 29 = .ok (.bipush 6, 2) := by decide +kernel
theorem dX9_toWhom_31 : decode cX9_toWhom 31 = .ok (.if_icmp .ge 44, 3) := by decide +kernel
theorem dX9_toWhom_34 : decode cX9_toWhom 34 = .ok (.aload_n 0, 1) := by decide +kernel
theorem dX9_toWhom_35 : decode cX9_toWhom 35 = .ok (.invokevirtual 289, 3) := by decide +kernel
theorem dX9_toWhom_38 : decode cX9_toWhom 38 = .ok (.aload_n 0, 1) := by decide +kernel
theorem dX9_toWhom_39 : decode cX9_toWhom 39 = .ok (.getfield 19, 3) := by decide +kernel
theorem dX9_toWhom_42 : decode cX9_toWhom 42 = .ok (.iload_n 2, 1) := by decide +kernel
theorem dX9_toWhom_43 : decode cX9_toWhom 43 = .ok (.iload 4, 2) := by decide +kernel
theorem dX9_toWhom_45 : decode cX9_toWhom 45 = .ok (.iastore, 1) := by decide +kernel
theorem dX9_toWhom_46 : decode cX9_toWhom 46 = .ok (.iload_n 3, 1) := by decide +kernel
theorem dX9_toWhom_47 : decode cX9_toWhom 47 = .ok (.aload_n 0, 1) := by decide +kernel
theorem dX9_toWhom_48 : decode cX9_toWhom 48 = .ok (.iload_n 1, 1) := by decide +kernel
theorem dX9_toWhom_49 : decode cX9_toWhom 49 = .ok (.invokevirtual 326, 3) := by decide +kernel
theorem dX9_toWhom_52 : decode cX9_toWhom 52 = .ok (.ifCond .eq 10, 3) := by decide +kernel
theorem dX9_toWhom_55 : decode cX9_toWhom 55 = .ok (.iconst 1, 1) := by decide +kernel
theorem dX9_toWhom_56 : decode cX9_toWhom 56 = .ok (.iload 4, 2) := by decide +kernel
theorem dX9_toWhom_58 : decode cX9_toWhom 58 = .ok (.ishl, 1) := by decide +kernel
theorem dX9_toWhom_59 : decode cX9_toWhom 59 = .ok (.goto 4, 3) := by decide +kernel
theorem dX9_toWhom_62 : decode cX9_toWhom 62 = .ok (.iconst 0, 1) := by decide +kernel
theorem dX9_toWhom_63 : decode cX9_toWhom 63 = .ok (.ior, 1) := by decide +kernel
theorem dX9_toWhom_64 : decode cX9_toWhom 64 = .ok (.istore_n 3, 1) := by decide +kernel
theorem dX9_toWhom_65 : decode cX9_toWhom 65 = .ok (.aload_n 0, 1) := by decide +kernel
theorem dX9_toWhom_66 : decode cX9_toWhom 66 = .ok (.invokevirtual 292, 3) := by decide +kernel
theorem dX9_toWhom_69 : decode cX9_toWhom 69 = .ok (.iinc 4 1, 3) := by decide +kernel
theorem dX9_toWhom_72 : decode cX9_toWhom 72 = .ok (.goto (-45), 3) := by decide +kernel
theorem dX9_toWhom_75 : decode cX9_toWhom 75 = .ok (.iload_n 3, 1) := by decide +kernel
theorem dX9_toWhom_76 : decode cX9_toWhom 76 = .ok (.ireturn, 1) := by decide +kernel
theorem dX9_endFor_0 : decode cX9_endFor 0 = .ok (.aload_n 0, 1) := by decide +kernel
theorem dX9_endFor_1 : decode cX9_endFor 1 = .ok (.aload_n 0, 1) := by decide +kernel
theorem dX9_endFor_2 : decode cX9_endFor 2 = .ok (.getfield 19, 3) := by decide +kernel
theorem dX9_endFor_5 : decode cX9_endFor 5 = .ok (.iload_n 1, 1) := by decide +kernel
theorem dX9_endFor_6 : decode cX9_endFor 6 = .ok (.iaload, 1) := by decide +kernel
theorem dX9_endFor_7 : decode cX9_endFor 7 = .ok (.invokevirtual 153, 3) := by decide +kernel
theorem dX9_endFor_10 : decode cX9_endFor 10 = .ok (.ifCond .eq 20, 3) := by decide +kernel
theorem dX9_endFor_13 : decode cX9_endFor 13 = .ok (.aload_n 0, 1) := by decide +kernel
theorem dX9_endFor_14 : decode cX9_endFor 14 = .ok (.getfield 34, 3) := by decide +kernel
theorem dX9_endFor_17 : decode cX9_endFor 17 = .ok (.aload_n 0, 1) := by decide +kernel
theorem dX9_endFor_18 : decode cX9_endFor 18 = .ok (.getfield 19, 3) := by decide +kernel
theorem dX9_endFor_21 : decode cX9_endFor 21 = .ok (.iload_n 1, 1) := by decide +kernel
theorem dX9_endFor_22 : decode cX9_endFor 22 = .ok (.iaload, 1) := by decide +kernel
theorem dX9_endFor_23 : decode cX9_endFor 23 = .ok (.laload, 1) := by decide +kernel
theorem dX9_endFor_24 : decode cX9_endFor 24 = .ok (.invokestatic 113, 3) := by decide +kernel
theorem dX9_endFor_27 : decode cX9_endFor 27 = .ok (.goto 4, 3) := by decide +kernel
theorem dX9_endFor_30 : decode cX9_endFor 30 = .ok (.iconst 0, 1) := by decide +kernel
theorem dX9_endFor_31 : decode cX9_endFor 31 = .ok (.lload_n 2, 1) := by decide +kernel
theorem dX9_endFor_32 : decode cX9_endFor 32 = .ok (.aload_n 0, 1) := by decide +kernel
theorem dX9_endFor_33 : decode cX9_endFor 33 = .ok (.getfield 86, 3) := by decide +kernel
theorem dX9_endFor_36 : decode cX9_endFor 36 = .ok (.land, 1) := by decide +kernel
theorem dX9_endFor_37 : decode cX9_endFor 37 = .ok (.invokestatic 113, 3) := by decide +kernel
theorem dX9_endFor_40 : decode cX9_endFor 40 = .ok (.isub, 1) := by decide +kernel
theorem dX9_endFor_41 : decode cX9_endFor 41 = .ok (.ireturn, 1) := by decide +kernel
theorem dX9_findEnds_0 : decode cX9_findEnds 0 = .ok (.iconst 0, 1) := by decide +kernel
theorem dX9_findEnds_1 : decode cX9_findEnds 1 = .ok (.istore 4, 2) := by decide +kernel
theorem dX9_findEnds_3 : decode cX9_findEnds 3 = .ok (.iload 4, 2) := by decide +kernel
theorem dX9_findEnds_5 : decode cX9_findEnds 5 = .ok (.iconst 4, 1) := by decide +kernel
theorem dX9_findEnds_6 : decode cX9_findEnds 6 = .ok (.if_icmp .ge 107, 3) := by decide +kernel
theorem dX9_findEnds_9 : decode cX9_findEnds 9 = .ok (.aload_n 0, 1) := by decide +kernel
theorem dX9_findEnds_10 : decode cX9_findEnds 10 = .ok (.getfield 34, 3) := by decide +kernel
theorem dX9_findEnds_13 : decode cX9_findEnds 13 = .ok (.iload_n 1, 1) := by decide +kernel
theorem dX9_findEnds_14 : decode cX9_findEnds 14 = .ok (.laload, 1) := by decide +kernel
theorem dX9_findEnds_15 : decode cX9_findEnds 15 = .ok (.lstore 5, 2) := by decide +kernel
theorem dX9_findEnds_17 : decode cX9_findEnds 17 = .ok (.aload_n 0, 1) := by decide +kernel
theorem dX9_findEnds_18 : decode cX9_findEnds 18 = .ok (.getfield 34, 3) := by decide +kernel
theorem dX9_findEnds_21 : decode cX9_findEnds 21 = .ok (.iload_n 2, 1) := by decide +kernel
theorem dX9_findEnds_22 : decode cX9_findEnds 22 = .ok (.laload, 1) := by decide +kernel
theorem dX9_findEnds_23 : decode cX9_findEnds 23 = .ok (.lstore 7, 2) := by decide +kernel
theorem dX9_findEnds_25 : decode cX9_findEnds 25 = .ok (.aload_n 0, 1) := by decide +kernel
theorem dX9_findEnds_26 : decode cX9_findEnds 26 = .ok (.invokevirtual 289, 3) := by decide +kernel
theorem dX9_findEnds_29 : decode cX9_findEnds 29 = .ok (.aload_n 0, 1) := by decide +kernel
theorem dX9_findEnds_30 : decode cX9_findEnds 30 = .ok (.iload 4, 2) := by decide +kernel
theorem dX9_findEnds_32 : decode cX9_findEnds 32 = .ok (.iconst 2, 1) := by decide +kernel
theorem dX9_findEnds_33 : decode cX9_findEnds 33 = .ok (.idiv, 1) := by decide +kernel
theorem dX9_findEnds_34 : decode cX9_findEnds 34 = .ok (.iconst 1, 1) := by decide +kernel
theorem dX9_findEnds_35 : decode cX9_findEnds 35 = .ok (.if_icmp .ne 9, 3) := by decide +kernel
theorem dX9_findEnds_38 : decode cX9_findEnds 38 = .ok (.iconst 1, 1) := by decide +kernel
theorem dX9_findEnds_39 : decode cX9_findEnds 39 = .ok (.iload_n 1, 1) := by decide +kernel
theorem dX9_findEnds_40 : decode cX9_findEnds 40 = .ok (.ishl, 1) := by decide +kernel
theorem dX9_findEnds_41 : decode cX9_findEnds 41 = .ok (.goto 4, 3) := by decide +kernel
theorem dX9_findEnds_44 : decode cX9_findEnds 44 = .ok (.iconst 0, 1) := by decide +kernel
theorem dX9_findEnds_45 : decode cX9_findEnds 45 = .ok (.iload 4, 2) := by decide +kernel
theorem dX9_findEnds_47 : decode cX9_findEnds 47 = .ok (.iconst 2, 1) := by decide +kernel
theorem dX9_findEnds_48 : decode cX9_findEnds 48 = .ok (.irem, 1) := by decide +kernel
theorem dX9_findEnds_49 : decode cX9_findEnds 49 = .ok (.iconst 1, 1) := by decide +kernel
theorem dX9_findEnds_50 : decode cX9_findEnds 50 = .ok (.if_icmp .ne 9, 3) := by decide +kernel
theorem dX9_findEnds_53 : decode cX9_findEnds 53 = .ok (.iconst 1, 1) := by decide +kernel
theorem dX9_findEnds_54 : decode cX9_findEnds 54 = .ok (.iload_n 2, 1) := by decide +kernel
theorem dX9_findEnds_55 : decode cX9_findEnds 55 = .ok (.ishl, 1) := by decide +kernel
theorem dX9_findEnds_56 : decode cX9_findEnds 56 = .ok (.goto 4, 3) := by decide +kernel
theorem dX9_findEnds_59 : decode cX9_findEnds 59 = .ok (.iconst 0, 1) := by decide +kernel
theorem dX9_findEnds_60 : decode cX9_findEnds 60 = .ok (.ior, 1) := by decide +kernel
theorem dX9_findEnds_61 : decode cX9_findEnds 61 = .ok (.putfield 159, 3) := by decide +kernel
theorem dX9_findEnds_64 : decode cX9_findEnds 64 = .ok (.aload_n 0, 1) := by decide +kernel
theorem dX9_findEnds_65 : decode cX9_findEnds 65 = .ok (.iload_n 3, 1) := by decide +kernel
theorem dX9_findEnds_66 : decode cX9_findEnds 66 = .ok (.invokevirtual 217, 3) := by decide +kernel
theorem dX9_findEnds_69 : decode cX9_findEnds 69 = .ok (.aload_n 0, 1) := by decide +kernel
theorem dX9_findEnds_70 : decode cX9_findEnds 70 = .ok (.getfield 65, 3) := by decide +kernel
theorem dX9_findEnds_73 : decode cX9_findEnds 73 = .ok (.iconst 2, 1) := by decide +kernel
theorem dX9_findEnds_74 : decode cX9_findEnds 74 = .ok (.iload 4, 2) := by decide +kernel
theorem dX9_findEnds_76 : decode cX9_findEnds 76 = .ok (.imul, 1) := by decide +kernel
theorem dX9_findEnds_77 : decode cX9_findEnds 77 = .ok (.aload_n 0, 1) := by decide +kernel
theorem dX9_findEnds_78 : decode cX9_findEnds 78 = .ok (.iload_n 1, 1) := by decide +kernel
theorem dX9_findEnds_79 : decode cX9_findEnds 79 = .ok (.lload 5, 2) := by decide +kernel
theorem dX9_findEnds_81 : decode cX9_findEnds 81 = .ok (.invokevirtual 329, 3) := by decide +kernel
theorem dX9_findEnds_84 : decode cX9_findEnds 84 = .ok (.iastore, 1) := by decide +kernel
theorem dX9_findEnds_85 : decode cX9_findEnds 85 = .ok (.aload_n 0, 1) := by decide +kernel
theorem dX9_findEnds_86 : decode cX9_findEnds 86 = .ok (.getfield 65, 3) := by decide +kernel
theorem dX9_findEnds_89 : decode cX9_findEnds 89 = .ok (.iconst 2, 1) := by decide +kernel
theorem dX9_findEnds_90 : decode cX9_findEnds 90 = .ok (.iload 4, 2) := by decide +kernel
theorem dX9_findEnds_92 : decode cX9_findEnds 92 = .ok (.imul, 1) := by decide +kernel
theorem dX9_findEnds_93 : decode cX9_findEnds 93 = .ok (.iconst 1, 1) := by decide +kernel
theorem dX9_findEnds_94 : decode cX9_findEnds 94 = .ok (.iadd, 1) := by decide +kernel
theorem dX9_findEnds_95 : decode cX9_findEnds 95 = .ok (.aload_n 0, 1) := by decide +kernel
theorem dX9_findEnds_96 : decode cX9_findEnds 96 = .ok (.iload_n 2, 1) := by decide +kernel
theorem dX9_findEnds_97 : decode cX9_findEnds 97 = .ok (.lload 7, 2) := by decide +kernel
theorem dX9_findEnds_99 : decode cX9_findEnds 99 = .ok (.invokevirtual 329, 3) := by decide +kernel
theorem dX9_findEnds_102 : decode cX9_findEnds 102 = .ok (.iastore, 1) := by decide +kernel
theorem dX9_findEnds_103 : decode cX9_findEnds 103 = .ok (.aload_n 0, 1) := by decide +kernel
theorem dX9_findEnds_104 : decode cX9_findEnds 104 = .ok (.invokevirtual 292, 3) := by decide +kernel
theorem dX9_findEnds_107 : decode cX9_findEnds 107 = .ok (.iinc 4 1, 3) := by decide +kernel
theorem dX9_findEnds_110 : decode cX9_findEnds 110 = .ok (.goto (-107), 3) := by decide +kernel
theorem dX9_findEnds_113 : decode cX9_findEnds 113 = .ok (.return_, 1) := by decide +kernel
theorem dX9_two_0 : decode cX9_two 0 = .ok (.aload_n 0, 1) := by decide +kernel
theorem dX9_two_1 : decode cX9_two 1 = .ok (.iload_n 1, 1) := by decide +kernel
theorem dX9_two_2 : decode cX9_two 2 = .ok (.invokevirtual 153, 3) := by decide +kernel
theorem dX9_two_5 : decode cX9_two 5 = .ok (.ifCond .eq 16, 3) := by decide +kernel
theorem dX9_two_8 : decode cX9_two 8 = .ok (.aload_n 0, 1) := by decide +kernel
theorem dX9_two_9 : decode cX9_two 9 = .ok (.iload_n 2, 1) := by decide +kernel
theorem dX9_two_10 : decode cX9_two 10 = .ok (.invokevirtual 153, 3) := by decide +kernel
theorem dX9_two_13 : decode cX9_two 13 = .ok (.ifCond .eq 8, 3) := by decide +kernel
theorem dX9_two_16 : decode cX9_two 16 = .ok (.iload_n 1, 1) := by decide +kernel
theorem dX9_two_17 : decode cX9_two 17 = .ok (.iload_n 2, 1) := by decide +kernel
theorem dX9_two_18 : decode cX9_two 18 = .ok (.if_icmp .ne 7, 3) := by decide +kernel
theorem dX9_two_21 : decode cX9_two 21 = .ok (.iconst (-1), 1) := by decide +kernel
theorem dX9_two_22 : decode cX9_two 22 = .ok (.goto 10, 3) := by decide +kernel
theorem dX9_two_25 : decode cX9_two 25 = .ok (.iload_n 3, 1) := by decide +kernel
theorem dX9_two_26 : decode cX9_two 26 = .ok (.iconst 1, 1) := by decide +kernel
theorem dX9_two_27 : decode cX9_two 27 = .ok (.bipush 30, 2) := by decide +kernel
theorem dX9_two_29 : decode cX9_two 29 = .ok (.invokestatic 182, 3) := by decide +kernel
theorem dX9_two_32 : decode cX9_two 32 = .ok (.istore 4, 2) := by decide +kernel
theorem dX9_two_34 : decode cX9_two 34 = .ok (.iload 4, 2) := by decide +kernel
theorem dX9_two_36 : decode cX9_two 36 = .ok (.ifCond .eq 10, 3) := by decide +kernel
theorem dX9_two_39 : decode cX9_two 39 = .ok (.aload_n 0, 1) := by decide +kernel
theorem dX9_two_40 : decode cX9_two 40 = .ok (.iload 4, 2) := by decide +kernel
theorem dX9_two_42 : decode cX9_two 42 = .ok (.invokevirtual 188, 3) := by decide +kernel
theorem dX9_two_45 : decode cX9_two 45 = .ok (.ireturn, 1) := by decide +kernel
theorem dX9_two_46 : decode cX9_two 46 = .ok (.aload_n 0, 1) := by decide +kernel
theorem dX9_two_47 : decode cX9_two 47 = .ok (.iload_n 1, 1) := by decide +kernel
theorem dX9_two_48 : decode cX9_two 48 = .ok (.iload_n 2, 1) := by decide +kernel
theorem dX9_two_49 : decode cX9_two 49 = .ok (.iload_n 3, 1) := by decide +kernel
theorem dX9_two_50 : decode cX9_two 50 = .ok (.invokevirtual 333, 3) := by decide +kernel
theorem dX9_two_53 : decode cX9_two 53 = .ok (.iconst 0, 1) := by decide +kernel
theorem dX9_two_54 : decode cX9_two 54 = .ok (.istore 5, 2) := by decide +kernel
theorem dX9_two_56 : decode cX9_two 56 = .ok (.iload 5, 2) := by decide +kernel
theorem dX9_two_58 : decode cX9_two 58 = .ok (.iconst 4, 1) := by decide +kernel
theorem dX9_two_59 : decode cX9_two 59 = .ok (.if_icmp .ge 72, 3) := by decide +kernel
theorem dX9_two_62 : decode cX9_two 62 = .ok (.aload_n 0, 1) := by decide +kernel
theorem dX9_two_63 : decode cX9_two 63 = .ok (.getfield 65, 3) := by decide +kernel
theorem dX9_two_66 : decode cX9_two 66 = .ok (.iconst 2, 1) := by decide +kernel
theorem dX9_two_67 : decode cX9_two 67 = .ok (.iload 5, 2) := by decide +kernel
theorem dX9_two_69 : decode cX9_two 69 = .ok (.iconst 2, 1) := by decide +kernel
theorem dX9_two_70 : decode cX9_two 70 = .ok (.ixor, 1) := by decide +kernel
theorem dX9_two_71 : decode cX9_two 71 = .ok (.imul, 1) := by decide +kernel
theorem dX9_two_72 : decode cX9_two 72 = .ok (.iaload, 1) := by decide +kernel
theorem dX9_two_73 : decode cX9_two 73 = .ok (.aload_n 0, 1) := by decide +kernel
theorem dX9_two_74 : decode cX9_two 74 = .ok (.getfield 65, 3) := by decide +kernel
theorem dX9_two_77 : decode cX9_two 77 = .ok (.iconst 2, 1) := by decide +kernel
theorem dX9_two_78 : decode cX9_two 78 = .ok (.iload 5, 2) := by decide +kernel
theorem dX9_two_80 : decode cX9_two 80 = .ok (.imul, 1) := by decide +kernel
theorem dX9_two_81 : decode cX9_two 81 = .ok (.iaload, 1) := by decide +kernel
theorem dX9_two_82 : decode cX9_two 82 = .ok (.if_icmp .gt 43, 3) := by decide +kernel
theorem dX9_two_85 : decode cX9_two 85 = .ok (.aload_n 0, 1) := by decide +kernel
theorem dX9_two_86 : decode cX9_two 86 = .ok (.getfield 65, 3) := by decide +kernel
theorem dX9_two_89 : decode cX9_two 89 = .ok (.iconst 2, 1) := by decide +kernel
theorem dX9_two_90 : decode cX9_two 90 = .ok (.iload 5, 2) := by decide +kernel
theorem dX9_two_92 : decode cX9_two 92 = .ok (.iconst 1, 1) := by decide +kernel
theorem dX9_two_93 : decode cX9_two 93 = .ok (.ixor, 1) := by decide +kernel
theorem dX9_two_94 : decode cX9_two 94 = .ok (.imul, 1) := by decide +kernel
theorem dX9_two_95 : decode cX9_two 95 = .ok (.iconst 1, 1) := by decide +kernel
theorem dX9_two_96 : decode cX9_two 96 = .ok (.iadd, 1) := by decide +kernel
theorem dX9_two_97 : decode cX9_two 97 = .ok (.iaload, 1) := by decide +kernel
theorem dX9_two_98 : decode cX9_two 98 = .ok (.aload_n 0, 1) := by decide +kernel
theorem dX9_two_99 : decode cX9_two 99 = .ok (.getfield 65, 3) := by decide +kernel
theorem dX9_two_102 : decode cX9_two 102 = .ok (.iconst 2, 1) := by decide +kernel
theorem dX9_two_103 : decode cX9_two 103 = .ok (.iload 5, 2) := by decide +kernel
theorem dX9_two_105 : decode cX9_two 105 = .ok (.imul, 1) := by decide +kernel
theorem dX9_two_106 : decode cX9_two 106 = .ok (.iconst 1, 1) := by decide +kernel
theorem dX9_two_107 : decode cX9_two 107 = .ok (.iadd, 1) := by decide +kernel
theorem dX9_two_108 : decode cX9_two 108 = .ok (.iaload, 1) := by decide +kernel
theorem dX9_two_109 : decode cX9_two 109 = .ok (.if_icmp .gt 16, 3) := by decide +kernel
theorem dX9_two_112 : decode cX9_two 112 = .ok (.bipush 10, 2) := by decide +kernel
theorem dX9_two_114 : decode cX9_two 114 = .ok (.iload 5, 2) := by decide +kernel
theorem dX9_two_116 : decode cX9_two 116 = .ok (.iconst 2, 1) := by decide +kernel
theorem dX9_two_117 : decode cX9_two 117 = .ok (.idiv, 1) := by decide +kernel
theorem dX9_two_118 : decode cX9_two 118 = .ok (.imul, 1) := by decide +kernel
theorem dX9_two_119 : decode cX9_two 119 = .ok (.iload 5, 2) := by decide +kernel
theorem dX9_two_121 : decode cX9_two 121 = .ok (.iconst 2, 1) := by decide +kernel
theorem dX9_two_122 : decode cX9_two 122 = .ok (.irem, 1) := by decide +kernel
theorem dX9_two_123 : decode cX9_two 123 = .ok (.iadd, 1) := by decide +kernel
theorem dX9_two_124 : decode cX9_two 124 = .ok (.ireturn, 1) := by decide +kernel
theorem dX9_two_125 : decode cX9_two 125 = .ok (.iinc 5 1, 3) := by decide +kernel
theorem dX9_two_128 : decode cX9_two 128 = .ok (.goto (-72), 3) := by decide +kernel
theorem dX9_two_131 : decode cX9_two 131 = .ok (.bipush (-9), 2) := by decide +kernel
theorem dX9_two_133 : decode cX9_two 133 = .ok (.ireturn, 1) := by decide +kernel
theorem dX9_divisor_0 : decode cX9_divisor 0 = .ok (.lload_n 0, 1) := by decide +kernel
theorem dX9_divisor_1 : decode cX9_divisor 1 = .ok (.lstore 4, 2) := by decide +kernel
theorem dX9_divisor_3 : decode cX9_divisor 3 = .ok (.lload_n 2, 1) := by decide +kernel
theorem dX9_divisor_4 : decode cX9_divisor 4 = .ok (.lstore 6, 2) := by decide +kernel
theorem dX9_divisor_6 : decode cX9_divisor 6 = .ok (.lload 6, 2) := by decide +kernel
theorem dX9_divisor_8 : decode cX9_divisor 8 = .ok (.lconst 0, 1) := by decide +kernel
theorem dX9_divisor_9 : decode cX9_divisor 9 = .ok (.lcmp, 1) := by decide +kernel
theorem dX9_divisor_10 : decode cX9_divisor 10 = .ok (.ifCond .eq 21, 3) := by decide +kernel
theorem dX9_divisor_13 : decode cX9_divisor 13 = .ok (.lload 4, 2) := by decide +kernel
theorem dX9_divisor_15 : decode cX9_divisor 15 = .ok (.lload 6, 2) := by decide +kernel
theorem dX9_divisor_17 : decode cX9_divisor 17 = .ok (.lrem, 1) := by decide +kernel
theorem dX9_divisor_18 : decode cX9_divisor 18 = .ok (.lstore 8, 2) := by decide +kernel
theorem dX9_divisor_20 : decode cX9_divisor 20 = .ok (.lload 6, 2) := by decide +kernel
theorem dX9_divisor_22 : decode cX9_divisor 22 = .ok (.lstore 4, 2) := by decide +kernel
theorem dX9_divisor_24 : decode cX9_divisor 24 = .ok (.lload 8, 2) := by decide +kernel
theorem dX9_divisor_26 : decode cX9_divisor 26 = .ok (.lstore 6, 2) := by decide +kernel
theorem dX9_divisor_28 : decode cX9_divisor 28 = .ok (.goto (-22), 3) := by decide +kernel
theorem dX9_divisor_31 : decode cX9_divisor 31 = .ok (.lload 4, 2) := by decide +kernel
theorem dX9_divisor_33 : decode cX9_divisor 33 = .ok (.lreturn, 1) := by decide +kernel
theorem dX9_partOf_0 : decode cX9_partOf 0 = .ok (.iload 4, 2) := by decide +kernel
theorem dX9_partOf_2 : decode cX9_partOf 2 = .ok (.ifCond .ne 7, 3) := by decide +kernel
theorem dX9_partOf_5 : decode cX9_partOf 5 = .ok (.lload_n 0, 1) := by decide +kernel
theorem dX9_partOf_6 : decode cX9_partOf 6 = .ok (.goto 4, 3) := by decide +kernel
theorem dX9_partOf_9 : decode cX9_partOf 9 = .ok (.lload_n 2, 1) := by decide +kernel
theorem dX9_partOf_10 : decode cX9_partOf 10 = .ok (.lload_n 0, 1) := by decide +kernel
theorem dX9_partOf_11 : decode cX9_partOf 11 = .ok (.lload_n 2, 1) := by decide +kernel
theorem dX9_partOf_12 : decode cX9_partOf 12 = .ok (.invokestatic 337, 3) := by decide +kernel
theorem dX9_partOf_15 : decode cX9_partOf 15 = .ok (.ldiv, 1) := by decide +kernel
theorem dX9_partOf_16 : decode cX9_partOf 16 = .ok (.lreturn, 1) := by decide +kernel
theorem dX9_damp_0 : decode cX9_damp 0 = .ok (.aload_n 0, 1) := by decide +kernel
theorem dX9_damp_1 : decode cX9_damp 1 = .ok (.iload_n 1, 1) := by decide +kernel
theorem dX9_damp_2 : decode cX9_damp 2 = .ok (.invokevirtual 153, 3) := by decide +kernel
theorem dX9_damp_5 : decode cX9_damp 5 = .ok (.ifCond .ne 7, 3) := by decide +kernel
theorem dX9_damp_8 : decode cX9_damp 8 = .ok (.iconst (-1), 1) := by decide +kernel
theorem dX9_damp_9 : decode cX9_damp 9 = .ok (.goto 62, 3) := by decide +kernel
theorem dX9_damp_12 : decode cX9_damp 12 = .ok (.iload_n 2, 1) := by decide +kernel
theorem dX9_damp_13 : decode cX9_damp 13 = .ok (.ifCond .lt 13, 3) := by decide +kernel
theorem dX9_damp_16 : decode cX9_damp 16 = .ok (.iload_n 3, 1) := by decide +kernel
theorem dX9_damp_17 : decode cX9_damp 17 = .ok (.ifCond .lt 9, 3) := by decide +kernel
theorem dX9_damp_20 : decode cX9_damp 20 = .ok (.iload 4, 2) := by decide +kernel
theorem dX9_damp_22 : decode cX9_damp 22 = .ok (.iconst 2, 1) := by decide +kernel
theorem dX9_damp_23 : decode cX9_damp 23 = .ok (.if_icmp .ge 8, 3) := by decide +kernel
theorem dX9_damp_26 : decode cX9_damp 26 = .ok (.bipush (-4), 2) := by decide +kernel
theorem dX9_damp_28 : decode cX9_damp 28 = .ok (.goto 43, 3) := by decide +kernel
theorem dX9_damp_31 : decode cX9_damp 31 = .ok (.iload_n 2, 1) := by decide +kernel
theorem dX9_damp_32 : decode cX9_damp 32 = .ok (.bipush 39, 2) := by decide +kernel
theorem dX9_damp_34 : decode cX9_damp 34 = .ok (.if_icmp .gt 16, 3) := by decide +kernel
theorem dX9_damp_37 : decode cX9_damp 37 = .ok (.iload_n 3, 1) := by decide +kernel
theorem dX9_damp_38 : decode cX9_damp 38 = .ok (.bipush 7, 2) := by decide +kernel
theorem dX9_damp_40 : decode cX9_damp 40 = .ok (.if_icmp .gt 10, 3) := by decide +kernel
theorem dX9_damp_43 : decode cX9_damp 43 = .ok (.iload 4, 2) := by decide +kernel
theorem dX9_damp_45 : decode cX9_damp 45 = .ok (.bipush 20, 2) := by decide +kernel
theorem dX9_damp_47 : decode cX9_damp 47 = .ok (.if_icmp .le 8, 3) := by decide +kernel
theorem dX9_damp_50 : decode cX9_damp 50 = .ok (.bipush (-6), 2) := by decide +kernel
theorem dX9_damp_52 : decode cX9_damp 52 = .ok (.goto 19, 3) := by decide +kernel
theorem dX9_damp_55 : decode cX9_damp 55 = .ok (.iload 5, 2) := by decide +kernel
theorem dX9_damp_57 : decode cX9_damp 57 = .ok (.iconst 0, 1) := by decide +kernel
theorem dX9_damp_58 : decode cX9_damp 58 = .ok (.iconst 1, 1) := by decide +kernel
theorem dX9_damp_59 : decode cX9_damp 59 = .ok (.invokestatic 82, 3) := by decide +kernel
theorem dX9_damp_62 : decode cX9_damp 62 = .ok (.ifCond .ne 8, 3) := by decide +kernel
theorem dX9_damp_65 : decode cX9_damp 65 = .ok (.bipush (-2), 2) := by decide +kernel
theorem dX9_damp_67 : decode cX9_damp 67 = .ok (.goto 4, 3) := by decide +kernel
theorem dX9_damp_70 : decode cX9_damp 70 = .ok (.iconst 0, 1) := by decide +kernel
theorem dX9_damp_71 : decode cX9_damp 71 = .ok (.istore 6, 2) := by decide +kernel
theorem dX9_damp_73 : decode cX9_damp 73 = .ok (.iload 6, 2) := by decide +kernel
theorem dX9_damp_75 : decode cX9_damp 75 = .ok (.ifCond .eq 10, 3) := by decide +kernel
theorem dX9_damp_78 : decode cX9_damp 78 = .ok (.aload_n 0, 1) := by decide +kernel
theorem dX9_damp_79 : decode cX9_damp 79 = .ok (.iload 6, 2) := by decide +kernel
theorem dX9_damp_81 : decode cX9_damp 81 = .ok (.invokevirtual 341, 3) := by decide +kernel
theorem dX9_damp_84 : decode cX9_damp 84 = .ok (.lreturn, 1) := by decide +kernel
theorem dX9_damp_85 : decode cX9_damp 85 = .ok (.lconst 0, 1) := by decide +kernel
theorem dX9_damp_86 : decode cX9_damp 86 = .ok (.lstore 7, 2) := by decide +kernel
theorem dX9_damp_88 : decode cX9_damp 88 = .ok (.lconst 1, 1) := by decide +kernel
theorem dX9_damp_89 : decode cX9_damp 89 = .ok (.lstore 9, 2) := by decide +kernel
theorem dX9_damp_91 : decode cX9_damp 91 = .ok (.iconst 0, 1) := by decide +kernel
theorem dX9_damp_92 : decode cX9_damp 92 = .ok (.istore 11, 2) := by decide +kernel
theorem dX9_damp_94 : decode cX9_damp 94 = .ok (.iload 11, 2) := by decide +kernel
theorem dX9_damp_96 : decode cX9_damp 96 = .ok (.iload_n 3, 1) := by decide +kernel
theorem dX9_damp_97 : decode cX9_damp 97 = .ok (.if_icmp .ge 17, 3) := by decide +kernel
theorem dX9_damp_100 : decode cX9_damp 100 = .ok (.lload 9, 2) := by decide +kernel
theorem dX9_damp_102 : decode cX9_damp 102 = .ok (.iload 4, 2) := by decide +kernel
theorem dX9_damp_104 : decode cX9_damp 104 = .ok (.i2l, 1) := by decide +kernel
theorem dX9_damp_105 : decode cX9_damp 105 = .ok (.lmul, 1) := by decide +kernel
theorem dX9_damp_106 : decode cX9_damp 106 = .ok (.lstore 9, 2) := by decide +kernel
theorem dX9_damp_108 : decode cX9_damp 108 = .ok (.iinc 11 1, 3) := by decide +kernel
theorem dX9_damp_111 : decode cX9_damp 111 = .ok (.goto (-17), 3) := by decide +kernel
theorem dX9_damp_114 : decode cX9_damp 114 = .ok (.iconst 0, 1) := by decide +kernel
theorem dX9_damp_115 : decode cX9_damp 115 = .ok (.istore 11, 2) := by decide +kernel
theorem dX9_damp_117 : decode cX9_damp 117 = .ok (.iload 11, 2) := by decide +kernel
theorem dX9_damp_119 : decode cX9_damp 119 = .ok (.iconst 1, 1) := by decide +kernel
theorem dX9_damp_120 : decode cX9_damp 120 = .ok (.iload_n 3, 1) := by decide +kernel
theorem dX9_damp_121 : decode cX9_damp 121 = .ok (.ishl, 1) := by decide +kernel
theorem dX9_damp_122 : decode cX9_damp 122 = .ok (.if_icmp .ge 96, 3) := by decide +kernel
theorem dX9_damp_125 : decode cX9_damp 125 = .ok (.aload_n 0, 1) := by decide +kernel
theorem dX9_damp_126 : decode cX9_damp 126 = .ok (.invokevirtual 289, 3) := by decide +kernel
theorem dX9_damp_129 : decode cX9_damp 129 = .ok (.lconst 1, 1) := by decide +kernel
theorem dX9_damp_130 : decode cX9_damp 130 = .ok (.lstore 12, 2) := by decide +kernel
theorem dX9_damp_132 : decode cX9_damp 132 = .ok (.iconst 0, 1) := by decide +kernel
theorem dX9_damp_133 : decode cX9_damp 133 = .ok (.istore 14, 2) := by decide +kernel
theorem dX9_damp_135 : decode cX9_damp 135 = .ok (.iload 14, 2) := by decide +kernel
theorem dX9_damp_137 : decode cX9_damp 137 = .ok (.iload_n 3, 1) := by decide +kernel
theorem dX9_damp_138 : decode cX9_damp 138 = .ok (.if_icmp .ge 46, 3) := by decide +kernel
theorem dX9_damp_141 : decode cX9_damp 141 = .ok (.aload_n 0, 1) := by decide +kernel
theorem dX9_damp_142 : decode cX9_damp 142 = .ok (.iload 11, 2) := by decide +kernel
theorem dX9_damp_144 : decode cX9_damp 144 = .ok (.i2l, 1) := by decide +kernel
theorem dX9_damp_145 : decode cX9_damp 145 = .ok (.iload 14, 2) := by decide +kernel
theorem dX9_damp_147 : decode cX9_damp 147 = .ok (.invokestatic 75, 3) := by decide +kernel
theorem dX9_damp_150 : decode cX9_damp 150 = .ok (.putfield 107, 3) := by decide +kernel
theorem dX9_damp_153 : decode cX9_damp 153 = .ok (.lload 12, 2) := by decide +kernel
theorem dX9_damp_155 : decode cX9_damp 155 = .ok (.aload_n 0, 1) := by decide +kernel
theorem dX9_damp_156 : decode cX9_damp 156 = .ok (.getfield 107, 3) := by decide +kernel
theorem dX9_damp_159 : decode cX9_damp 159 = .ok (.ifCond .eq 7, 3) := by decide +kernel
theorem dX9_damp_162 : decode cX9_damp 162 = .ok (.lconst 1, 1) := by decide +kernel
theorem dX9_damp_163 : decode cX9_damp 163 = .ok (.goto 8, 3) := by decide +kernel
theorem dX9_damp_166 : decode cX9_damp 166 = .ok (.iload 4, 2) := by decide +kernel
theorem dX9_damp_168 : decode cX9_damp 168 = .ok (.iconst 1, 1) := by decide +kernel
theorem dX9_damp_169 : decode cX9_damp 169 = .ok (.isub, 1) := by decide +kernel
theorem dX9_damp_170 : decode cX9_damp 170 = .ok (.i2l, 1) := by decide +kernel
theorem dX9_damp_171 : decode cX9_damp 171 = .ok (.lmul, 1) := by decide +kernel
theorem dX9_damp_172 : decode cX9_damp 172 = .ok (.lstore 12, 2) := by decide +kernel
theorem dX9_damp_174 : decode cX9_damp 174 = .ok (.aload_n 0, 1) := by decide +kernel
theorem dX9_damp_175 : decode cX9_damp 175 = .ok (.invokevirtual 179, 3) := by decide +kernel
theorem dX9_damp_178 : decode cX9_damp 178 = .ok (.iinc 14 1, 3) := by decide +kernel
theorem dX9_damp_181 : decode cX9_damp 181 = .ok (.goto (-46), 3) := by decide +kernel
theorem dX9_damp_184 : decode cX9_damp 184 = .ok (.lload 7, 2) := by decide +kernel
theorem dX9_damp_186 : decode cX9_damp 186 = .ok (.aload_n 0, 1) := by decide +kernel
theorem dX9_damp_187 : decode cX9_damp 187 = .ok (.getfield 34, 3) := by decide +kernel
theorem dX9_damp_190 : decode cX9_damp 190 = .ok (.iload_n 1, 1) := by decide +kernel
theorem dX9_damp_191 : decode cX9_damp 191 = .ok (.laload, 1) := by decide +kernel
theorem dX9_damp_192 : decode cX9_damp 192 = .ok (.iload_n 2, 1) := by decide +kernel
theorem dX9_damp_193 : decode cX9_damp 193 = .ok (.invokestatic 75, 3) := by decide +kernel
theorem dX9_damp_196 : decode cX9_damp 196 = .ok (.ifCond .eq 8, 3) := by decide +kernel
theorem dX9_damp_199 : decode cX9_damp 199 = .ok (.lload 12, 2) := by decide +kernel
theorem dX9_damp_201 : decode cX9_damp 201 = .ok (.goto 4, 3) := by decide +kernel
theorem dX9_damp_204 : decode cX9_damp 204 = .ok (.lconst 0, 1) := by decide +kernel
theorem dX9_damp_205 : decode cX9_damp 205 = .ok (.ladd, 1) := by decide +kernel
theorem dX9_damp_206 : decode cX9_damp 206 = .ok (.lstore 7, 2) := by decide +kernel
theorem dX9_damp_208 : decode cX9_damp 208 = .ok (.aload_n 0, 1) := by decide +kernel
theorem dX9_damp_209 : decode cX9_damp 209 = .ok (.invokevirtual 292, 3) := by decide +kernel
theorem dX9_damp_212 : decode cX9_damp 212 = .ok (.iinc 11 1, 3) := by decide +kernel
theorem dX9_damp_215 : decode cX9_damp 215 = .ok (.goto (-98), 3) := by decide +kernel
theorem dX9_damp_218 : decode cX9_damp 218 = .ok (.lload 7, 2) := by decide +kernel
theorem dX9_damp_220 : decode cX9_damp 220 = .ok (.lload 9, 2) := by decide +kernel
theorem dX9_damp_222 : decode cX9_damp 222 = .ok (.iload 5, 2) := by decide +kernel
theorem dX9_damp_224 : decode cX9_damp 224 = .ok (.invokestatic 344, 3) := by decide +kernel
theorem dX9_damp_227 : decode cX9_damp 227 = .ok (.lreturn, 1) := by decide +kernel
theorem dX9_goesFurther_0 : decode cX9_goesFurther 0 = .ok (.aload_n 0, 1) := by decide +kernel
theorem dX9_goesFurther_1 : decode cX9_goesFurther 1 = .ok (.aload_n 0, 1) := by decide +kernel
theorem dX9_goesFurther_2 : decode cX9_goesFurther 2 = .ok (.getfield 19, 3) := by decide +kernel
theorem dX9_goesFurther_5 : decode cX9_goesFurther 5 = .ok (.iload_n 1, 1) := by decide +kernel
theorem dX9_goesFurther_6 : decode cX9_goesFurther 6 = .ok (.iaload, 1) := by decide +kernel
theorem dX9_goesFurther_7 : decode cX9_goesFurther 7 = .ok (.invokevirtual 153, 3) := by decide +kernel
theorem dX9_goesFurther_10 : decode cX9_goesFurther 10 = .ok (.ifCond .eq 17, 3) := by decide +kernel
theorem dX9_goesFurther_13 : decode cX9_goesFurther 13 = .ok (.aload_n 0, 1) := by decide +kernel
theorem dX9_goesFurther_14 : decode cX9_goesFurther 14 = .ok (.getfield 19, 3) := by decide +kernel
theorem dX9_goesFurther_17 : decode cX9_goesFurther 17 = .ok (.iload_n 1, 1) := by decide +kernel
theorem dX9_goesFurther_18 : decode cX9_goesFurther 18 = .ok (.iaload, 1) := by decide +kernel
theorem dX9_goesFurther_19 : decode cX9_goesFurther 19 = .ok (.iload_n 1, 1) := by decide +kernel
theorem dX9_goesFurther_20 : decode cX9_goesFurther 20 = .ok (.if_icmp .eq 7, 3) := by decide +kernel
theorem dX9_goesFurther_23 : decode cX9_goesFurther 23 = .ok (.iconst 1, 1) := by decide +kernel
theorem dX9_goesFurther_24 : decode cX9_goesFurther 24 = .ok (.goto 4, 3) := by decide +kernel
theorem dX9_goesFurther_27 : decode cX9_goesFurther 27 = .ok (.iconst 0, 1) := by decide +kernel
theorem dX9_goesFurther_28 : decode cX9_goesFurther 28 = .ok (.ireturn, 1) := by decide +kernel
theorem dX9_reachOf_0 : decode cX9_reachOf 0 = .ok (.iconst 1, 1) := by decide +kernel
theorem dX9_reachOf_1 : decode cX9_reachOf 1 = .ok (.iload_n 1, 1) := by decide +kernel
theorem dX9_reachOf_2 : decode cX9_reachOf 2 = .ok (.ishl, 1) := by decide +kernel
theorem dX9_reachOf_3 : decode cX9_reachOf 3 = .ok (.istore_n 2, 1) := by decide +kernel
theorem dX9_reachOf_4 : decode cX9_reachOf 4 = .ok (.iload_n 1, 1) := by decide +kernel
theorem dX9_reachOf_5 : decode cX9_reachOf 5 = .ok (.istore_n 3, 1) := by decide +kernel
theorem dX9_reachOf_6 : decode cX9_reachOf 6 = .ok (.iconst 0, 1) := by decide +kernel
theorem dX9_reachOf_7 : decode cX9_reachOf 7 = .ok (.istore 4, 2) := by decide +kernel
theorem dX9_reachOf_9 : decode cX9_reachOf 9 = .ok (.iload 4, 2) := by decide +kernel
theorem dX9_reachOf_11 : decode cX9_reachOf 11 = .ok (.bipush 6, 2) := by decide +kernel
theorem dX9_reachOf_13 : decode cX9_reachOf 13 = .ok (.if_icmp .ge 30, 3) := by decide +kernel
theorem dX9_reachOf_16 : decode cX9_reachOf 16 = .ok (.aload_n 0, 1) := by decide +kernel
theorem dX9_reachOf_17 : decode cX9_reachOf 17 = .ok (.iload_n 3, 1) := by decide +kernel
theorem dX9_reachOf_18 : decode cX9_reachOf 18 = .ok (.invokevirtual 348, 3) := by decide +kernel
theorem dX9_reachOf_21 : decode cX9_reachOf 21 = .ok (.ifCond .eq 22, 3) := by decide +kernel
theorem dX9_reachOf_24 : decode cX9_reachOf 24 = .ok (.aload_n 0, 1) := by decide +kernel
theorem dX9_reachOf_25 : decode cX9_reachOf 25 = .ok (.getfield 19, 3) := by decide +kernel
theorem dX9_reachOf_28 : decode cX9_reachOf 28 = .ok (.iload_n 3, 1) := by decide +kernel
theorem dX9_reachOf_29 : decode cX9_reachOf 29 = .ok (.iaload, 1) := by decide +kernel
theorem dX9_reachOf_30 : decode cX9_reachOf 30 = .ok (.istore_n 3, 1) := by decide +kernel
theorem dX9_reachOf_31 : decode cX9_reachOf 31 = .ok (.iload_n 2, 1) := by decide +kernel
theorem dX9_reachOf_32 : decode cX9_reachOf 32 = .ok (.iconst 1, 1) := by decide +kernel
theorem dX9_reachOf_33 : decode cX9_reachOf 33 = .ok (.iload_n 3, 1) := by decide +kernel
theorem dX9_reachOf_34 : decode cX9_reachOf 34 = .ok (.ishl, 1) := by decide +kernel
theorem dX9_reachOf_35 : decode cX9_reachOf 35 = .ok (.ior, 1) := by decide +kernel
theorem dX9_reachOf_36 : decode cX9_reachOf 36 = .ok (.istore_n 2, 1) := by decide +kernel
theorem dX9_reachOf_37 : decode cX9_reachOf 37 = .ok (.iinc 4 1, 3) := by decide +kernel
theorem dX9_reachOf_40 : decode cX9_reachOf 40 = .ok (.goto (-31), 3) := by decide +kernel
theorem dX9_reachOf_43 : decode cX9_reachOf 43 = .ok (.iload_n 2, 1) := by decide +kernel
theorem dX9_reachOf_44 : decode cX9_reachOf 44 = .ok (.ireturn, 1) := by decide +kernel
theorem dX9_ringOf_0 : decode cX9_ringOf 0 = .ok (.iload_n 1, 1) := by decide +kernel
theorem dX9_ringOf_1 : decode cX9_ringOf 1 = .ok (.istore_n 2, 1) := by decide +kernel
theorem dX9_ringOf_2 : decode cX9_ringOf 2 = .ok (.iconst 0, 1) := by decide +kernel
theorem dX9_ringOf_3 : decode cX9_ringOf 3 = .ok (.istore_n 3, 1) := by decide +kernel
theorem dX9_ringOf_4 : decode cX9_ringOf 4 = .ok (.iload_n 3, 1) := by decide +kernel
theorem dX9_ringOf_5 : decode cX9_ringOf 5 = .ok (.bipush 6, 2) := by decide +kernel
theorem dX9_ringOf_7 : decode cX9_ringOf 7 = .ok (.if_icmp .ge 27, 3) := by decide +kernel
theorem dX9_ringOf_10 : decode cX9_ringOf 10 = .ok (.aload_n 0, 1) := by decide +kernel
theorem dX9_ringOf_11 : decode cX9_ringOf 11 = .ok (.iload_n 2, 1) := by decide +kernel
theorem dX9_ringOf_12 : decode cX9_ringOf 12 = .ok (.invokevirtual 348, 3) := by decide +kernel
theorem dX9_ringOf_15 : decode cX9_ringOf 15 = .ok (.ifCond .ne 6, 3) := by decide +kernel
theorem dX9_ringOf_18 : decode cX9_ringOf 18 = .ok (.bipush (-9), 2) := by decide +kernel
theorem dX9_ringOf_20 : decode cX9_ringOf 20 = .ok (.ireturn, 1) := by decide +kernel
theorem dX9_ringOf_21 : decode cX9_ringOf 21 = .ok (.aload_n 0, 1) := by decide +kernel
theorem dX9_ringOf_22 : decode cX9_ringOf 22 = .ok (.getfield 19, 3) := by decide +kernel
theorem dX9_ringOf_25 : decode cX9_ringOf 25 = .ok (.iload_n 2, 1) := by decide +kernel
theorem dX9_ringOf_26 : decode cX9_ringOf 26 = .ok (.iaload, 1) := by decide +kernel
theorem dX9_ringOf_27 : decode cX9_ringOf 27 = .ok (.istore_n 2, 1) := by decide +kernel
theorem dX9_ringOf_28 : decode cX9_ringOf 28 = .ok (.iinc 3 1, 3) := by decide +kernel
theorem dX9_ringOf_31 : decode cX9_ringOf 31 = .ok (.goto (-27), 3) := by decide +kernel
theorem dX9_ringOf_34 : decode cX9_ringOf 34 = .ok (.iconst 1, 1) := by decide +kernel
theorem dX9_ringOf_35 : decode cX9_ringOf 35 = .ok (.istore_n 3, 1) := by decide +kernel
theorem dX9_ringOf_36 : decode cX9_ringOf 36 = .ok (.aload_n 0, 1) := by decide +kernel
theorem dX9_ringOf_37 : decode cX9_ringOf 37 = .ok (.getfield 19, 3) := by decide +kernel
theorem dX9_ringOf_40 : decode cX9_ringOf 40 = .ok (.iload_n 2, 1) := by decide +kernel
theorem dX9_ringOf_41 : decode cX9_ringOf 41 = .ok (.iaload, 1) := by decide +kernel
theorem dX9_ringOf_42 : decode cX9_ringOf 42 = .ok (.istore 4, 2) := by decide +kernel
theorem dX9_ringOf_44 : decode cX9_ringOf 44 = .ok (.iload 4, 2) := by decide +kernel
theorem dX9_ringOf_46 : decode cX9_ringOf 46 = .ok (.iload_n 2, 1) := by decide +kernel
theorem dX9_ringOf_47 : decode cX9_ringOf 47 = .ok (.if_icmp .eq 18, 3) := by decide +kernel
theorem dX9_ringOf_50 : decode cX9_ringOf 50 = .ok (.iinc 3 1, 3) := by decide +kernel
theorem dX9_ringOf_53 : decode cX9_ringOf 53 = .ok (.aload_n 0, 1) := by decide +kernel
theorem dX9_ringOf_54 : decode cX9_ringOf 54 = .ok (.getfield 19, 3) := by decide +kernel
theorem dX9_ringOf_57 : decode cX9_ringOf 57 = .ok (.iload 4, 2) := by decide +kernel
theorem dX9_ringOf_59 : decode cX9_ringOf 59 = .ok (.iaload, 1) := by decide +kernel
theorem dX9_ringOf_60 : decode cX9_ringOf 60 = .ok (.istore 4, 2) := by decide +kernel
theorem dX9_ringOf_62 : decode cX9_ringOf 62 = .ok (.goto (-18), 3) := by decide +kernel
theorem dX9_ringOf_65 : decode cX9_ringOf 65 = .ok (.iload_n 3, 1) := by decide +kernel
theorem dX9_ringOf_66 : decode cX9_ringOf 66 = .ok (.ireturn, 1) := by decide +kernel
theorem dX9_reach_0 : decode cX9_reach 0 = .ok (.aload_n 0, 1) := by decide +kernel
theorem dX9_reach_1 : decode cX9_reach 1 = .ok (.iload_n 1, 1) := by decide +kernel
theorem dX9_reach_2 : decode cX9_reach 2 = .ok (.invokevirtual 153, 3) := by decide +kernel
theorem dX9_reach_5 : decode cX9_reach 5 = .ok (.ifCond .ne 7, 3) := by decide +kernel
theorem dX9_reach_8 : decode cX9_reach 8 = .ok (.iconst (-1), 1) := by decide +kernel
theorem dX9_reach_9 : decode cX9_reach 9 = .ok (.goto 18, 3) := by decide +kernel
theorem dX9_reach_12 : decode cX9_reach 12 = .ok (.iload_n 2, 1) := by decide +kernel
theorem dX9_reach_13 : decode cX9_reach 13 = .ok (.iconst 0, 1) := by decide +kernel
theorem dX9_reach_14 : decode cX9_reach 14 = .ok (.iconst 1, 1) := by decide +kernel
theorem dX9_reach_15 : decode cX9_reach 15 = .ok (.invokestatic 82, 3) := by decide +kernel
theorem dX9_reach_18 : decode cX9_reach 18 = .ok (.ifCond .ne 8, 3) := by decide +kernel
theorem dX9_reach_21 : decode cX9_reach 21 = .ok (.bipush (-2), 2) := by decide +kernel
theorem dX9_reach_23 : decode cX9_reach 23 = .ok (.goto 4, 3) := by decide +kernel
theorem dX9_reach_26 : decode cX9_reach 26 = .ok (.iconst 0, 1) := by decide +kernel
theorem dX9_reach_27 : decode cX9_reach 27 = .ok (.istore_n 3, 1) := by decide +kernel
theorem dX9_reach_28 : decode cX9_reach 28 = .ok (.iload_n 3, 1) := by decide +kernel
theorem dX9_reach_29 : decode cX9_reach 29 = .ok (.ifCond .eq 11, 3) := by decide +kernel
theorem dX9_reach_32 : decode cX9_reach 32 = .ok (.aload_n 0, 1) := by decide +kernel
theorem dX9_reach_33 : decode cX9_reach 33 = .ok (.iload_n 3, 1) := by decide +kernel
theorem dX9_reach_34 : decode cX9_reach 34 = .ok (.invokevirtual 188, 3) := by decide +kernel
theorem dX9_reach_37 : decode cX9_reach 37 = .ok (.goto 20, 3) := by decide +kernel
theorem dX9_reach_40 : decode cX9_reach 40 = .ok (.iload_n 2, 1) := by decide +kernel
theorem dX9_reach_41 : decode cX9_reach 41 = .ok (.ifCond .ne 11, 3) := by decide +kernel
theorem dX9_reach_44 : decode cX9_reach 44 = .ok (.aload_n 0, 1) := by decide +kernel
theorem dX9_reach_45 : decode cX9_reach 45 = .ok (.iload_n 1, 1) := by decide +kernel
theorem dX9_reach_46 : decode cX9_reach 46 = .ok (.invokevirtual 351, 3) := by decide +kernel
theorem dX9_reach_49 : decode cX9_reach 49 = .ok (.goto 8, 3) := by decide +kernel
theorem dX9_reach_52 : decode cX9_reach 52 = .ok (.aload_n 0, 1) := by decide +kernel
theorem dX9_reach_53 : decode cX9_reach 53 = .ok (.iload_n 1, 1) := by decide +kernel
theorem dX9_reach_54 : decode cX9_reach 54 = .ok (.invokevirtual 354, 3) := by decide +kernel
theorem dX9_reach_57 : decode cX9_reach 57 = .ok (.ireturn, 1) := by decide +kernel
theorem dX9_common_0 : decode cX9_common 0 = .ok (.aload_n 0, 1) := by decide +kernel
theorem dX9_common_1 : decode cX9_common 1 = .ok (.iload_n 1, 1) := by decide +kernel
theorem dX9_common_2 : decode cX9_common 2 = .ok (.invokevirtual 153, 3) := by decide +kernel
theorem dX9_common_5 : decode cX9_common 5 = .ok (.ifCond .eq 16, 3) := by decide +kernel
theorem dX9_common_8 : decode cX9_common 8 = .ok (.aload_n 0, 1) := by decide +kernel
theorem dX9_common_9 : decode cX9_common 9 = .ok (.iload_n 2, 1) := by decide +kernel
theorem dX9_common_10 : decode cX9_common 10 = .ok (.invokevirtual 153, 3) := by decide +kernel
theorem dX9_common_13 : decode cX9_common 13 = .ok (.ifCond .eq 8, 3) := by decide +kernel
theorem dX9_common_16 : decode cX9_common 16 = .ok (.iload_n 1, 1) := by decide +kernel
theorem dX9_common_17 : decode cX9_common 17 = .ok (.iload_n 2, 1) := by decide +kernel
theorem dX9_common_18 : decode cX9_common 18 = .ok (.if_icmp .ne 7, 3) := by decide +kernel
theorem dX9_common_21 : decode cX9_common 21 = .ok (.iconst (-1), 1) := by decide +kernel
theorem dX9_common_22 : decode cX9_common 22 = .ok (.goto 18, 3) := by decide +kernel
theorem dX9_common_25 : decode cX9_common 25 = .ok (.iload_n 3, 1) := by decide +kernel
theorem dX9_common_26 : decode cX9_common 26 = .ok (.iconst 0, 1) := by decide +kernel
theorem dX9_common_27 : decode cX9_common 27 = .ok (.iconst 2, 1) := by decide +kernel
theorem dX9_common_28 : decode cX9_common 28 = .ok (.invokestatic 82, 3) := by decide +kernel
theorem dX9_common_31 : decode cX9_common 31 = .ok (.ifCond .ne 8, 3) := by decide +kernel
theorem dX9_common_34 : decode cX9_common 34 = .ok (.bipush (-2), 2) := by decide +kernel
theorem dX9_common_36 : decode cX9_common 36 = .ok (.goto 4, 3) := by decide +kernel
theorem dX9_common_39 : decode cX9_common 39 = .ok (.iconst 0, 1) := by decide +kernel
theorem dX9_common_40 : decode cX9_common 40 = .ok (.istore 4, 2) := by decide +kernel
theorem dX9_common_42 : decode cX9_common 42 = .ok (.iload 4, 2) := by decide +kernel
theorem dX9_common_44 : decode cX9_common 44 = .ok (.ifCond .eq 10, 3) := by decide +kernel
theorem dX9_common_47 : decode cX9_common 47 = .ok (.aload_n 0, 1) := by decide +kernel
theorem dX9_common_48 : decode cX9_common 48 = .ok (.iload 4, 2) := by decide +kernel
theorem dX9_common_50 : decode cX9_common 50 = .ok (.invokevirtual 188, 3) := by decide +kernel
theorem dX9_common_53 : decode cX9_common 53 = .ok (.ireturn, 1) := by decide +kernel
theorem dX9_common_54 : decode cX9_common 54 = .ok (.iload_n 3, 1) := by decide +kernel
theorem dX9_common_55 : decode cX9_common 55 = .ok (.ifCond .ne 19, 3) := by decide +kernel
theorem dX9_common_58 : decode cX9_common 58 = .ok (.aload_n 0, 1) := by decide +kernel
theorem dX9_common_59 : decode cX9_common 59 = .ok (.getfield 34, 3) := by decide +kernel
theorem dX9_common_62 : decode cX9_common 62 = .ok (.iload_n 1, 1) := by decide +kernel
theorem dX9_common_63 : decode cX9_common 63 = .ok (.laload, 1) := by decide +kernel
theorem dX9_common_64 : decode cX9_common 64 = .ok (.aload_n 0, 1) := by decide +kernel
theorem dX9_common_65 : decode cX9_common 65 = .ok (.getfield 34, 3) := by decide +kernel
theorem dX9_common_68 : decode cX9_common 68 = .ok (.iload_n 2, 1) := by decide +kernel
theorem dX9_common_69 : decode cX9_common 69 = .ok (.laload, 1) := by decide +kernel
theorem dX9_common_70 : decode cX9_common 70 = .ok (.land, 1) := by decide +kernel
theorem dX9_common_71 : decode cX9_common 71 = .ok (.goto 41, 3) := by decide +kernel
theorem dX9_common_74 : decode cX9_common 74 = .ok (.iload_n 3, 1) := by decide +kernel
theorem dX9_common_75 : decode cX9_common 75 = .ok (.iconst 1, 1) := by decide +kernel
theorem dX9_common_76 : decode cX9_common 76 = .ok (.if_icmp .ne 19, 3) := by decide +kernel
theorem dX9_common_79 : decode cX9_common 79 = .ok (.aload_n 0, 1) := by decide +kernel
theorem dX9_common_80 : decode cX9_common 80 = .ok (.getfield 34, 3) := by decide +kernel
theorem dX9_common_83 : decode cX9_common 83 = .ok (.iload_n 1, 1) := by decide +kernel
theorem dX9_common_84 : decode cX9_common 84 = .ok (.laload, 1) := by decide +kernel
theorem dX9_common_85 : decode cX9_common 85 = .ok (.aload_n 0, 1) := by decide +kernel
theorem dX9_common_86 : decode cX9_common 86 = .ok (.getfield 34, 3) := by decide +kernel
theorem dX9_common_89 : decode cX9_common 89 = .ok (.iload_n 2, 1) := by decide +kernel
theorem dX9_common_90 : decode cX9_common 90 = .ok (.laload, 1) := by decide +kernel
theorem dX9_common_91 : decode cX9_common 91 = .ok (.lor, 1) := by decide +kernel
theorem dX9_common_92 : decode cX9_common 92 = .ok (.goto 20, 3) := by decide +kernel
theorem dX9_common_95 : decode cX9_common 95 = .ok (.aload_n 0, 1) := by decide +kernel
theorem dX9_common_96 : decode cX9_common 96 = .ok (.getfield 34, 3) := by decide +kernel
theorem dX9_common_99 : decode cX9_common 99 = .ok (.iload_n 1, 1) := by decide +kernel
theorem dX9_common_100 : decode cX9_common 100 = .ok (.laload, 1) := by decide +kernel
theorem dX9_common_101 : decode cX9_common 101 = .ok (.aload_n 0, 1) := by decide +kernel
theorem dX9_common_102 : decode cX9_common 102 = .ok (.getfield 34, 3) := by decide +kernel
theorem dX9_common_105 : decode cX9_common 105 = .ok (.iload_n 2, 1) := by decide +kernel
theorem dX9_common_106 : decode cX9_common 106 = .ok (.laload, 1) := by decide +kernel
theorem dX9_common_107 : decode cX9_common 107 = .ok (.ldc2_w 97, 3) := by decide +kernel
theorem dX9_common_110 : decode cX9_common 110 = .ok (.lxor, 1) := by decide +kernel
theorem dX9_common_111 : decode cX9_common 111 = .ok (.land, 1) := by decide +kernel
theorem dX9_common_112 : decode cX9_common 112 = .ok (.invokestatic 113, 3) := by decide +kernel
theorem dX9_common_115 : decode cX9_common 115 = .ok (.ireturn, 1) := by decide +kernel
theorem dX9_knowers_0 : decode cX9_knowers 0 = .ok (.iconst 0, 1) := by decide +kernel
theorem dX9_knowers_1 : decode cX9_knowers 1 = .ok (.istore_n 2, 1) := by decide +kernel
theorem dX9_knowers_2 : decode cX9_knowers 2 = .ok (.iconst 0, 1) := by decide +kernel
theorem dX9_knowers_3 : decode cX9_knowers 3 = .ok (.istore_n 3, 1) := by decide +kernel
theorem dX9_knowers_4 : decode cX9_knowers 4 = .ok (.iload_n 3, 1) := by decide +kernel
theorem dX9_knowers_5 : decode cX9_knowers 5 = .ok (.aload_n 0, 1) := by decide +kernel
theorem dX9_knowers_6 : decode cX9_knowers 6 = .ok (.getfield 79, 3) := by decide +kernel
theorem dX9_knowers_9 : decode cX9_knowers 9 = .ok (.if_icmp .ge 30, 3) := by decide +kernel
theorem dX9_knowers_12 : decode cX9_knowers 12 = .ok (.iload_n 2, 1) := by decide +kernel
theorem dX9_knowers_13 : decode cX9_knowers 13 = .ok (.aload_n 0, 1) := by decide +kernel
theorem dX9_knowers_14 : decode cX9_knowers 14 = .ok (.getfield 34, 3) := by decide +kernel
theorem dX9_knowers_17 : decode cX9_knowers 17 = .ok (.iload_n 3, 1) := by decide +kernel
theorem dX9_knowers_18 : decode cX9_knowers 18 = .ok (.laload, 1) := by decide +kernel
theorem dX9_knowers_19 : decode cX9_knowers 19 = .ok (.iload_n 1, 1) := by decide +kernel
theorem dX9_knowers_20 : decode cX9_knowers 20 = .ok (.invokestatic 75, 3) := by decide +kernel
theorem dX9_knowers_23 : decode cX9_knowers 23 = .ok (.ifCond .eq 7, 3) := by decide +kernel
theorem dX9_knowers_26 : decode cX9_knowers 26 = .ok (.iconst 1, 1) := by decide +kernel
theorem dX9_knowers_27 : decode cX9_knowers 27 = .ok (.goto 4, 3) := by decide +kernel
theorem dX9_knowers_30 : decode cX9_knowers 30 = .ok (.iconst 0, 1) := by decide +kernel
theorem dX9_knowers_31 : decode cX9_knowers 31 = .ok (.iadd, 1) := by decide +kernel
theorem dX9_knowers_32 : decode cX9_knowers 32 = .ok (.istore_n 2, 1) := by decide +kernel
theorem dX9_knowers_33 : decode cX9_knowers 33 = .ok (.iinc 3 1, 3) := by decide +kernel
theorem dX9_knowers_36 : decode cX9_knowers 36 = .ok (.goto (-32), 3) := by decide +kernel
theorem dX9_knowers_39 : decode cX9_knowers 39 = .ok (.iload_n 2, 1) := by decide +kernel
theorem dX9_knowers_40 : decode cX9_knowers 40 = .ok (.ireturn, 1) := by decide +kernel
theorem dX9_rarest_0 : decode cX9_rarest 0 = .ok (.iload_n 1, 1) := by decide +kernel
theorem dX9_rarest_1 : decode cX9_rarest 1 = .ok (.iconst 0, 1) := by decide +kernel
theorem dX9_rarest_2 : decode cX9_rarest 2 = .ok (.iconst 2, 1) := by decide +kernel
theorem dX9_rarest_3 : decode cX9_rarest 3 = .ok (.invokestatic 82, 3) := by decide +kernel
theorem dX9_rarest_6 : decode cX9_rarest 6 = .ok (.ifCond .ne 10, 3) := by decide +kernel
theorem dX9_rarest_9 : decode cX9_rarest 9 = .ok (.aload_n 0, 1) := by decide +kernel
theorem dX9_rarest_10 : decode cX9_rarest 10 = .ok (.bipush (-2), 2) := by decide +kernel
theorem dX9_rarest_12 : decode cX9_rarest 12 = .ok (.invokevirtual 188, 3) := by decide +kernel
theorem dX9_rarest_15 : decode cX9_rarest 15 = .ok (.ireturn, 1) := by decide +kernel
theorem dX9_rarest_16 : decode cX9_rarest 16 = .ok (.bipush (-9), 2) := by decide +kernel
theorem dX9_rarest_18 : decode cX9_rarest 18 = .ok (.istore_n 2, 1) := by decide +kernel
theorem dX9_rarest_19 : decode cX9_rarest 19 = .ok (.iconst 0, 1) := by decide +kernel
theorem dX9_rarest_20 : decode cX9_rarest 20 = .ok (.istore_n 3, 1) := by decide +kernel
theorem dX9_rarest_21 : decode cX9_rarest 21 = .ok (.iconst 0, 1) := by decide +kernel
theorem dX9_rarest_22 : decode cX9_rarest 22 = .ok (.istore 4, 2) := by decide +kernel
theorem dX9_rarest_24 : decode cX9_rarest 24 = .ok (.iload 4, 2) := by decide +kernel
theorem dX9_rarest_26 : decode cX9_rarest 26 = .ok (.bipush 40, 2) := by decide +kernel
theorem dX9_rarest_28 : decode cX9_rarest 28 = .ok (.if_icmp .ge 52, 3) := by decide +kernel
theorem dX9_rarest_31 : decode cX9_rarest 31 = .ok (.aload_n 0, 1) := by decide +kernel
theorem dX9_rarest_32 : decode cX9_rarest 32 = .ok (.iload 4, 2) := by decide +kernel
theorem dX9_rarest_34 : decode cX9_rarest 34 = .ok (.invokevirtual 357, 3) := by decide +kernel
theorem dX9_rarest_37 : decode cX9_rarest 37 = .ok (.istore 5, 2) := by decide +kernel
theorem dX9_rarest_39 : decode cX9_rarest 39 = .ok (.iload_n 3, 1) := by decide +kernel
theorem dX9_rarest_40 : decode cX9_rarest 40 = .ok (.iload 5, 2) := by decide +kernel
theorem dX9_rarest_42 : decode cX9_rarest 42 = .ok (.ifCond .ne 7, 3) := by decide +kernel
theorem dX9_rarest_45 : decode cX9_rarest 45 = .ok (.iconst 1, 1) := by decide +kernel
theorem dX9_rarest_46 : decode cX9_rarest 46 = .ok (.goto 4, 3) := by decide +kernel
theorem dX9_rarest_49 : decode cX9_rarest 49 = .ok (.iconst 0, 1) := by decide +kernel
theorem dX9_rarest_50 : decode cX9_rarest 50 = .ok (.iadd, 1) := by decide +kernel
theorem dX9_rarest_51 : decode cX9_rarest 51 = .ok (.istore_n 3, 1) := by decide +kernel
theorem dX9_rarest_52 : decode cX9_rarest 52 = .ok (.iload 5, 2) := by decide +kernel
theorem dX9_rarest_54 : decode cX9_rarest 54 = .ok (.ifCond .le 20, 3) := by decide +kernel
theorem dX9_rarest_57 : decode cX9_rarest 57 = .ok (.iload_n 2, 1) := by decide +kernel
theorem dX9_rarest_58 : decode cX9_rarest 58 = .ok (.ifCond .lt 13, 3) := by decide +kernel
theorem dX9_rarest_61 : decode cX9_rarest 61 = .ok (.iload 5, 2) := by decide +kernel
theorem dX9_rarest_63 : decode cX9_rarest 63 = .ok (.aload_n 0, 1) := by decide +kernel
theorem dX9_rarest_64 : decode cX9_rarest 64 = .ok (.iload_n 2, 1) := by decide +kernel
theorem dX9_rarest_65 : decode cX9_rarest 65 = .ok (.invokevirtual 357, 3) := by decide +kernel
theorem dX9_rarest_68 : decode cX9_rarest 68 = .ok (.if_icmp .ge 6, 3) := by decide +kernel
theorem dX9_rarest_71 : decode cX9_rarest 71 = .ok (.iload 4, 2) := by decide +kernel
theorem dX9_rarest_73 : decode cX9_rarest 73 = .ok (.istore_n 2, 1) := by decide +kernel
theorem dX9_rarest_74 : decode cX9_rarest 74 = .ok (.iinc 4 1, 3) := by decide +kernel
theorem dX9_rarest_77 : decode cX9_rarest 77 = .ok (.goto (-53), 3) := by decide +kernel
theorem dX9_rarest_80 : decode cX9_rarest 80 = .ok (.iload_n 1, 1) := by decide +kernel
theorem dX9_rarest_81 : decode cX9_rarest 81 = .ok (.iconst 2, 1) := by decide +kernel
theorem dX9_rarest_82 : decode cX9_rarest 82 = .ok (.if_icmp .ne 7, 3) := by decide +kernel
theorem dX9_rarest_85 : decode cX9_rarest 85 = .ok (.iload_n 3, 1) := by decide +kernel
theorem dX9_rarest_86 : decode cX9_rarest 86 = .ok (.goto 24, 3) := by decide +kernel
theorem dX9_rarest_89 : decode cX9_rarest 89 = .ok (.iload_n 1, 1) := by decide +kernel
theorem dX9_rarest_90 : decode cX9_rarest 90 = .ok (.ifCond .ne 7, 3) := by decide +kernel
theorem dX9_rarest_93 : decode cX9_rarest 93 = .ok (.iload_n 2, 1) := by decide +kernel
theorem dX9_rarest_94 : decode cX9_rarest 94 = .ok (.goto 16, 3) := by decide +kernel
theorem dX9_rarest_97 : decode cX9_rarest 97 = .ok (.iload_n 2, 1) := by decide +kernel
theorem dX9_rarest_98 : decode cX9_rarest 98 = .ok (.ifCond .ge 7, 3) := by decide +kernel
theorem dX9_rarest_101 : decode cX9_rarest 101 = .ok (.iconst 0, 1) := by decide +kernel
theorem dX9_rarest_102 : decode cX9_rarest 102 = .ok (.goto 8, 3) := by decide +kernel
theorem dX9_rarest_105 : decode cX9_rarest 105 = .ok (.aload_n 0, 1) := by decide +kernel
theorem dX9_rarest_106 : decode cX9_rarest 106 = .ok (.iload_n 2, 1) := by decide +kernel
theorem dX9_rarest_107 : decode cX9_rarest 107 = .ok (.invokevirtual 357, 3) := by decide +kernel
theorem dX9_rarest_110 : decode cX9_rarest 110 = .ok (.ireturn, 1) := by decide +kernel
theorem dX9_share_0 : decode cX9_share 0 = .ok (.iload_n 1, 1) := by decide +kernel
theorem dX9_share_1 : decode cX9_share 1 = .ok (.iconst 0, 1) := by decide +kernel
theorem dX9_share_2 : decode cX9_share 2 = .ok (.iconst 1, 1) := by decide +kernel
theorem dX9_share_3 : decode cX9_share 3 = .ok (.invokestatic 82, 3) := by decide +kernel
theorem dX9_share_6 : decode cX9_share 6 = .ok (.ifCond .ne 10, 3) := by decide +kernel
theorem dX9_share_9 : decode cX9_share 9 = .ok (.aload_n 0, 1) := by decide +kernel
theorem dX9_share_10 : decode cX9_share 10 = .ok (.bipush (-2), 2) := by decide +kernel
theorem dX9_share_12 : decode cX9_share 12 = .ok (.invokevirtual 341, 3) := by decide +kernel
theorem dX9_share_15 : decode cX9_share 15 = .ok (.lreturn, 1) := by decide +kernel
theorem dX9_share_16 : decode cX9_share 16 = .ok (.aload_n 0, 1) := by decide +kernel
theorem dX9_share_17 : decode cX9_share 17 = .ok (.getfield 86, 3) := by decide +kernel
theorem dX9_share_20 : decode cX9_share 20 = .ok (.lstore_n 2, 1) := by decide +kernel
theorem dX9_share_21 : decode cX9_share 21 = .ok (.iconst 0, 1) := by decide +kernel
theorem dX9_share_22 : decode cX9_share 22 = .ok (.istore 4, 2) := by decide +kernel
theorem dX9_share_24 : decode cX9_share 24 = .ok (.iload 4, 2) := by decide +kernel
theorem dX9_share_26 : decode cX9_share 26 = .ok (.aload_n 0, 1) := by decide +kernel
theorem dX9_share_27 : decode cX9_share 27 = .ok (.getfield 79, 3) := by decide +kernel
theorem dX9_share_30 : decode cX9_share 30 = .ok (.if_icmp .ge 19, 3) := by decide +kernel
theorem dX9_share_33 : decode cX9_share 33 = .ok (.lload_n 2, 1) := by decide +kernel
theorem dX9_share_34 : decode cX9_share 34 = .ok (.aload_n 0, 1) := by decide +kernel
theorem dX9_share_35 : decode cX9_share 35 = .ok (.getfield 34, 3) := by decide +kernel
theorem dX9_share_38 : decode cX9_share 38 = .ok (.iload 4, 2) := by decide +kernel
theorem dX9_share_40 : decode cX9_share 40 = .ok (.laload, 1) := by decide +kernel
theorem dX9_share_41 : decode cX9_share 41 = .ok (.lor, 1) := by decide +kernel
theorem dX9_share_42 : decode cX9_share 42 = .ok (.lstore_n 2, 1) := by decide +kernel
theorem dX9_share_43 : decode cX9_share 43 = .ok (.iinc 4 1, 3) := by decide +kernel
theorem dX9_share_46 : decode cX9_share 46 = .ok (.goto (-22), 3) := by decide +kernel
theorem dX9_share_49 : decode cX9_share 49 = .ok (.lload_n 2, 1) := by decide +kernel
theorem dX9_share_50 : decode cX9_share 50 = .ok (.lconst 0, 1) := by decide +kernel
theorem dX9_share_51 : decode cX9_share 51 = .ok (.lcmp, 1) := by decide +kernel
theorem dX9_share_52 : decode cX9_share 52 = .ok (.ifCond .ne 8, 3) := by decide +kernel
theorem dX9_share_55 : decode cX9_share 55 = .ok (.iload_n 1, 1) := by decide +kernel
theorem dX9_share_56 : decode cX9_share 56 = .ok (.i2l, 1) := by decide +kernel
theorem dX9_share_57 : decode cX9_share 57 = .ok (.goto 20, 3) := by decide +kernel
theorem dX9_share_60 : decode cX9_share 60 = .ok (.aload_n 0, 1) := by decide +kernel
theorem dX9_share_61 : decode cX9_share 61 = .ok (.getfield 86, 3) := by decide +kernel
theorem dX9_share_64 : decode cX9_share 64 = .ok (.invokestatic 113, 3) := by decide +kernel
theorem dX9_share_67 : decode cX9_share 67 = .ok (.i2l, 1) := by decide +kernel
theorem dX9_share_68 : decode cX9_share 68 = .ok (.lload_n 2, 1) := by decide +kernel
theorem dX9_share_69 : decode cX9_share 69 = .ok (.invokestatic 113, 3) := by decide +kernel
theorem dX9_share_72 : decode cX9_share 72 = .ok (.i2l, 1) := by decide +kernel
theorem dX9_share_73 : decode cX9_share 73 = .ok (.iload_n 1, 1) := by decide +kernel
theorem dX9_share_74 : decode cX9_share 74 = .ok (.invokestatic 344, 3) := by decide +kernel
theorem dX9_share_77 : decode cX9_share 77 = .ok (.lreturn, 1) := by decide +kernel
theorem dX9_lamp_0 : decode cX9_lamp 0 = .ok (.iload_n 1, 1) := by decide +kernel
theorem dX9_lamp_1 : decode cX9_lamp 1 = .ok (.iconst 0, 1) := by decide +kernel
theorem dX9_lamp_2 : decode cX9_lamp 2 = .ok (.aload_n 0, 1) := by decide +kernel
theorem dX9_lamp_3 : decode cX9_lamp 3 = .ok (.getfield 134, 3) := by decide +kernel
theorem dX9_lamp_6 : decode cX9_lamp 6 = .ok (.iconst 1, 1) := by decide +kernel
theorem dX9_lamp_7 : decode cX9_lamp 7 = .ok (.isub, 1) := by decide +kernel
theorem dX9_lamp_8 : decode cX9_lamp 8 = .ok (.invokestatic 82, 3) := by decide +kernel
theorem dX9_lamp_11 : decode cX9_lamp 11 = .ok (.ifCond .eq 11, 3) := by decide +kernel
theorem dX9_lamp_14 : decode cX9_lamp 14 = .ok (.iload_n 1, 1) := by decide +kernel
theorem dX9_lamp_15 : decode cX9_lamp 15 = .ok (.iconst 3, 1) := by decide +kernel
theorem dX9_lamp_16 : decode cX9_lamp 16 = .ok (.idiv, 1) := by decide +kernel
theorem dX9_lamp_17 : decode cX9_lamp 17 = .ok (.iconst 1, 1) := by decide +kernel
theorem dX9_lamp_18 : decode cX9_lamp 18 = .ok (.iadd, 1) := by decide +kernel
theorem dX9_lamp_19 : decode cX9_lamp 19 = .ok (.goto 8, 3) := by decide +kernel
theorem dX9_lamp_22 : decode cX9_lamp 22 = .ok (.aload_n 0, 1) := by decide +kernel
theorem dX9_lamp_23 : decode cX9_lamp 23 = .ok (.iconst (-1), 1) := by decide +kernel
theorem dX9_lamp_24 : decode cX9_lamp 24 = .ok (.invokevirtual 188, 3) := by decide +kernel
theorem dX9_lamp_27 : decode cX9_lamp 27 = .ok (.ireturn, 1) := by decide +kernel
theorem dX9_spoiltNow_0 : decode cX9_spoiltNow 0 = .ok (.aload_n 0, 1) := by decide +kernel
theorem dX9_spoiltNow_1 : decode cX9_spoiltNow 1 = .ok (.invokevirtual 289, 3) := by decide +kernel
theorem dX9_spoiltNow_4 : decode cX9_spoiltNow 4 = .ok (.aload_n 0, 1) := by decide +kernel
theorem dX9_spoiltNow_5 : decode cX9_spoiltNow 5 = .ok (.iconst 0, 1) := by decide +kernel
theorem dX9_spoiltNow_6 : decode cX9_spoiltNow 6 = .ok (.putfield 131, 3) := by decide +kernel
theorem dX9_spoiltNow_9 : decode cX9_spoiltNow 9 = .ok (.iconst 0, 1) := by decide +kernel
theorem dX9_spoiltNow_10 : decode cX9_spoiltNow 10 = .ok (.istore_n 1, 1) := by decide +kernel
theorem dX9_spoiltNow_11 : decode cX9_spoiltNow 11 = .ok (.iload_n 1, 1) := by decide +kernel
theorem dX9_spoiltNow_12 : decode cX9_spoiltNow 12 = .ok (.aload_n 0, 1) := by decide +kernel
theorem dX9_spoiltNow_13 : decode cX9_spoiltNow 13 = .ok (.getfield 134, 3) := by decide +kernel
theorem dX9_spoiltNow_16 : decode cX9_spoiltNow 16 = .ok (.if_icmp .ge 14, 3) := by decide +kernel
theorem dX9_spoiltNow_19 : decode cX9_spoiltNow 19 = .ok (.aload_n 0, 1) := by decide +kernel
theorem dX9_spoiltNow_20 : decode cX9_spoiltNow 20 = .ok (.iload_n 1, 1) := by decide +kernel
theorem dX9_spoiltNow_21 : decode cX9_spoiltNow 21 = .ok (.invokevirtual 169, 3) := by decide +kernel
theorem dX9_spoiltNow_24 : decode cX9_spoiltNow 24 = .ok (.iinc 1 1, 3) := by decide +kernel
theorem dX9_spoiltNow_27 : decode cX9_spoiltNow 27 = .ok (.goto (-16), 3) := by decide +kernel
theorem dX9_spoiltNow_30 : decode cX9_spoiltNow 30 = .ok (.aload_n 0, 1) := by decide +kernel
theorem dX9_spoiltNow_31 : decode cX9_spoiltNow 31 = .ok (.invokevirtual 292, 3) := by decide +kernel
theorem dX9_spoiltNow_34 : decode cX9_spoiltNow 34 = .ok (.aload_n 0, 1) := by decide +kernel
theorem dX9_spoiltNow_35 : decode cX9_spoiltNow 35 = .ok (.getfield 131, 3) := by decide +kernel
theorem dX9_spoiltNow_38 : decode cX9_spoiltNow 38 = .ok (.ireturn, 1) := by decide +kernel
theorem dX9_still_0 : decode cX9_still 0 = .ok (.aload_n 0, 1) := by decide +kernel
theorem dX9_still_1 : decode cX9_still 1 = .ok (.invokevirtual 289, 3) := by decide +kernel
theorem dX9_still_4 : decode cX9_still 4 = .ok (.iconst 0, 1) := by decide +kernel
theorem dX9_still_5 : decode cX9_still 5 = .ok (.istore_n 1, 1) := by decide +kernel
theorem dX9_still_6 : decode cX9_still 6 = .ok (.iconst 0, 1) := by decide +kernel
theorem dX9_still_7 : decode cX9_still 7 = .ok (.istore_n 2, 1) := by decide +kernel
theorem dX9_still_8 : decode cX9_still 8 = .ok (.iconst 0, 1) := by decide +kernel
theorem dX9_still_9 : decode cX9_still 9 = .ok (.istore_n 3, 1) := by decide +kernel
theorem dX9_still_10 : decode cX9_still 10 = .ok (.iload_n 3, 1) := by decide +kernel
theorem dX9_still_11 : decode cX9_still 11 = .ok (.bipush 60, 2) := by decide +kernel
theorem dX9_still_13 : decode cX9_still 13 = .ok (.if_icmp .ge 63, 3) := by decide +kernel
theorem dX9_still_16 : decode cX9_still 16 = .ok (.aload_n 0, 1) := by decide +kernel
theorem dX9_still_17 : decode cX9_still 17 = .ok (.invokevirtual 298, 3) := by decide +kernel
theorem dX9_still_20 : decode cX9_still 20 = .ok (.aload_n 0, 1) := by decide +kernel
theorem dX9_still_21 : decode cX9_still 21 = .ok (.getfield 86, 3) := by decide +kernel
theorem dX9_still_24 : decode cX9_still 24 = .ok (.invokestatic 113, 3) := by decide +kernel
theorem dX9_still_27 : decode cX9_still 27 = .ok (.iadd, 1) := by decide +kernel
theorem dX9_still_28 : decode cX9_still 28 = .ok (.istore 4, 2) := by decide +kernel
theorem dX9_still_30 : decode cX9_still 30 = .ok (.aload_n 0, 1) := by decide +kernel
theorem dX9_still_31 : decode cX9_still 31 = .ok (.invokevirtual 179, 3) := by decide +kernel
theorem dX9_still_34 : decode cX9_still 34 = .ok (.aload_n 0, 1) := by decide +kernel
theorem dX9_still_35 : decode cX9_still 35 = .ok (.invokevirtual 298, 3) := by decide +kernel
theorem dX9_still_38 : decode cX9_still 38 = .ok (.aload_n 0, 1) := by decide +kernel
theorem dX9_still_39 : decode cX9_still 39 = .ok (.getfield 86, 3) := by decide +kernel
theorem dX9_still_42 : decode cX9_still 42 = .ok (.invokestatic 113, 3) := by decide +kernel
theorem dX9_still_45 : decode cX9_still 45 = .ok (.iadd, 1) := by decide +kernel
theorem dX9_still_46 : decode cX9_still 46 = .ok (.iload 4, 2) := by decide +kernel
theorem dX9_still_48 : decode cX9_still 48 = .ok (.if_icmp .le 7, 3) := by decide +kernel
theorem dX9_still_51 : decode cX9_still 51 = .ok (.iconst 0, 1) := by decide +kernel
theorem dX9_still_52 : decode cX9_still 52 = .ok (.goto 6, 3) := by decide +kernel
theorem dX9_still_55 : decode cX9_still 55 = .ok (.iload_n 2, 1) := by decide +kernel
theorem dX9_still_56 : decode cX9_still 56 = .ok (.iconst 1, 1) := by decide +kernel
theorem dX9_still_57 : decode cX9_still 57 = .ok (.iadd, 1) := by decide +kernel
theorem dX9_still_58 : decode cX9_still 58 = .ok (.istore_n 2, 1) := by decide +kernel
theorem dX9_still_59 : decode cX9_still 59 = .ok (.iload_n 2, 1) := by decide +kernel
theorem dX9_still_60 : decode cX9_still 60 = .ok (.iload_n 1, 1) := by decide +kernel
theorem dX9_still_61 : decode cX9_still 61 = .ok (.if_icmp .le 7, 3) := by decide +kernel
theorem dX9_still_64 : decode cX9_still 64 = .ok (.iload_n 2, 1) := by decide +kernel
theorem dX9_still_65 : decode cX9_still 65 = .ok (.goto 4, 3) := by decide +kernel
theorem dX9_still_68 : decode cX9_still 68 = .ok (.iload_n 1, 1) := by decide +kernel
theorem dX9_still_69 : decode cX9_still 69 = .ok (.istore_n 1, 1) := by decide +kernel
theorem dX9_still_70 : decode cX9_still 70 = .ok (.iinc 3 1, 3) := by decide +kernel
theorem dX9_still_73 : decode cX9_still 73 = .ok (.goto (-63), 3) := by decide +kernel
theorem dX9_still_76 : decode cX9_still 76 = .ok (.aload_n 0, 1) := by decide +kernel
theorem dX9_still_77 : decode cX9_still 77 = .ok (.invokevirtual 292, 3) := by decide +kernel
theorem dX9_still_80 : decode cX9_still 80 = .ok (.iload_n 1, 1) := by decide +kernel
theorem dX9_still_81 : decode cX9_still 81 = .ok (.ireturn, 1) := by decide +kernel
theorem dX9_lettersFrom_0 : decode cX9_lettersFrom 0 = .ok (.iconst 0, 1) := by decide +kernel
theorem dX9_lettersFrom_1 : decode cX9_lettersFrom 1 = .ok (.istore_n 2, 1) := by decide +kernel
theorem dX9_lettersFrom_2 : decode cX9_lettersFrom 2 = .ok (.iconst 0, 1) := by decide +kernel
theorem dX9_lettersFrom_3 : decode cX9_lettersFrom 3 = .ok (.istore_n 3, 1) := by decide +kernel
theorem dX9_lettersFrom_4 : decode cX9_lettersFrom 4 = .ok (.iload_n 3, 1) := by decide +kernel
theorem dX9_lettersFrom_5 : decode cX9_lettersFrom 5 = .ok (.aload_n 0, 1) := by decide +kernel
theorem dX9_lettersFrom_6 : decode cX9_lettersFrom 6 = .ok (.getfield 134, 3) := by decide +kernel
theorem dX9_lettersFrom_9 : decode cX9_lettersFrom 9 = .ok (.if_icmp .ge 27, 3) := by decide +kernel
theorem dX9_lettersFrom_12 : decode cX9_lettersFrom 12 = .ok (.iload_n 2, 1) := by decide +kernel
theorem dX9_lettersFrom_13 : decode cX9_lettersFrom 13 = .ok (.aload_n 0, 1) := by decide +kernel
theorem dX9_lettersFrom_14 : decode cX9_lettersFrom 14 = .ok (.getfield 22, 3) := by decide +kernel
theorem dX9_lettersFrom_17 : decode cX9_lettersFrom 17 = .ok (.iload_n 3, 1) := by decide +kernel
theorem dX9_lettersFrom_18 : decode cX9_lettersFrom 18 = .ok (.iaload, 1) := by decide +kernel
theorem dX9_lettersFrom_19 : decode cX9_lettersFrom 19 = .ok (.iload_n 1, 1) := by decide +kernel
theorem dX9_lettersFrom_20 : decode cX9_lettersFrom 20 = .ok (.if_icmp .ne 7, 3) := by decide +kernel
theorem dX9_lettersFrom_23 : decode cX9_lettersFrom 23 = .ok (.iconst 1, 1) := by decide +kernel
theorem dX9_lettersFrom_24 : decode cX9_lettersFrom 24 = .ok (.goto 4, 3) := by decide +kernel
theorem dX9_lettersFrom_27 : decode cX9_lettersFrom 27 = .ok (.iconst 0, 1) := by decide +kernel
theorem dX9_lettersFrom_28 : decode cX9_lettersFrom 28 = .ok (.iadd, 1) := by decide +kernel
theorem dX9_lettersFrom_29 : decode cX9_lettersFrom 29 = .ok (.istore_n 2, 1) := by decide +kernel
theorem dX9_lettersFrom_30 : decode cX9_lettersFrom 30 = .ok (.iinc 3 1, 3) := by decide +kernel
theorem dX9_lettersFrom_33 : decode cX9_lettersFrom 33 = .ok (.goto (-29), 3) := by decide +kernel
theorem dX9_lettersFrom_36 : decode cX9_lettersFrom 36 = .ok (.iload_n 2, 1) := by decide +kernel
theorem dX9_lettersFrom_37 : decode cX9_lettersFrom 37 = .ok (.ireturn, 1) := by decide +kernel
theorem dX9_busiest_0 : decode cX9_busiest 0 = .ok (.aload_n 0, 1) := by decide +kernel
theorem dX9_busiest_1 : decode cX9_busiest 1 = .ok (.getfield 134, 3) := by decide +kernel
theorem dX9_busiest_4 : decode cX9_busiest 4 = .ok (.ifCond .ne 6, 3) := by decide +kernel
theorem dX9_busiest_7 : decode cX9_busiest 7 = .ok (.bipush (-9), 2) := by decide +kernel
theorem dX9_busiest_9 : decode cX9_busiest 9 = .ok (.ireturn, 1) := by decide +kernel
theorem dX9_busiest_10 : decode cX9_busiest 10 = .ok (.iconst 0, 1) := by decide +kernel
theorem dX9_busiest_11 : decode cX9_busiest 11 = .ok (.istore_n 1, 1) := by decide +kernel
theorem dX9_busiest_12 : decode cX9_busiest 12 = .ok (.iconst 1, 1) := by decide +kernel
theorem dX9_busiest_13 : decode cX9_busiest 13 = .ok (.istore_n 2, 1) := by decide +kernel
theorem dX9_busiest_14 : decode cX9_busiest 14 = .ok (.iload_n 2, 1) := by decide +kernel
theorem dX9_busiest_15 : decode cX9_busiest 15 = .ok (.aload_n 0, 1) := by decide +kernel
theorem dX9_busiest_16 : decode cX9_busiest 16 = .ok (.getfield 79, 3) := by decide +kernel
theorem dX9_busiest_19 : decode cX9_busiest 19 = .ok (.if_icmp .ge 28, 3) := by decide +kernel
theorem dX9_busiest_22 : decode cX9_busiest 22 = .ok (.aload_n 0, 1) := by decide +kernel
theorem dX9_busiest_23 : decode cX9_busiest 23 = .ok (.iload_n 2, 1) := by decide +kernel
theorem dX9_busiest_24 : decode cX9_busiest 24 = .ok (.invokevirtual 360, 3) := by decide +kernel
theorem dX9_busiest_27 : decode cX9_busiest 27 = .ok (.aload_n 0, 1) := by decide +kernel
theorem dX9_busiest_28 : decode cX9_busiest 28 = .ok (.iload_n 1, 1) := by decide +kernel
theorem dX9_busiest_29 : decode cX9_busiest 29 = .ok (.invokevirtual 360, 3) := by decide +kernel
theorem dX9_busiest_32 : decode cX9_busiest 32 = .ok (.if_icmp .le 7, 3) := by decide +kernel
theorem dX9_busiest_35 : decode cX9_busiest 35 = .ok (.iload_n 2, 1) := by decide +kernel
theorem dX9_busiest_36 : decode cX9_busiest 36 = .ok (.goto 4, 3) := by decide +kernel
theorem dX9_busiest_39 : decode cX9_busiest 39 = .ok (.iload_n 1, 1) := by decide +kernel
theorem dX9_busiest_40 : decode cX9_busiest 40 = .ok (.istore_n 1, 1) := by decide +kernel
theorem dX9_busiest_41 : decode cX9_busiest 41 = .ok (.iinc 2 1, 3) := by decide +kernel
theorem dX9_busiest_44 : decode cX9_busiest 44 = .ok (.goto (-30), 3) := by decide +kernel
theorem dX9_busiest_47 : decode cX9_busiest 47 = .ok (.iload_n 1, 1) := by decide +kernel
theorem dX9_busiest_48 : decode cX9_busiest 48 = .ok (.ireturn, 1) := by decide +kernel
theorem dX9_bag_0 : decode cX9_bag 0 = .ok (.iload_n 1, 1) := by decide +kernel
theorem dX9_bag_1 : decode cX9_bag 1 = .ok (.tableswitch 42 0 2 #[27, 32, 37], 27) := by decide +kernel
theorem dX9_bag_28 : decode cX9_bag 28 = .ok (.aload_n 0, 1) := by decide +kernel
theorem dX9_bag_29 : decode cX9_bag 29 = .ok (.invokevirtual 363, 3) := by decide +kernel
theorem dX9_bag_32 : decode cX9_bag 32 = .ok (.ireturn, 1) := by decide +kernel
theorem dX9_bag_33 : decode cX9_bag 33 = .ok (.aload_n 0, 1) := by decide +kernel
theorem dX9_bag_34 : decode cX9_bag 34 = .ok (.invokevirtual 366, 3) := by decide +kernel
theorem dX9_bag_37 : decode cX9_bag 37 = .ok (.ireturn, 1) := by decide +kernel
theorem dX9_bag_38 : decode cX9_bag 38 = .ok (.aload_n 0, 1) := by decide +kernel
theorem dX9_bag_39 : decode cX9_bag 39 = .ok (.invokevirtual 369, 3) := by decide +kernel
theorem dX9_bag_42 : decode cX9_bag 42 = .ok (.ireturn, 1) := by decide +kernel
theorem dX9_bag_43 : decode cX9_bag 43 = .ok (.aload_n 0, 1) := by decide +kernel
theorem dX9_bag_44 : decode cX9_bag 44 = .ok (.bipush (-2), 2) := by decide +kernel
theorem dX9_bag_46 : decode cX9_bag 46 = .ok (.invokevirtual 188, 3) := by decide +kernel
theorem dX9_bag_49 : decode cX9_bag 49 = .ok (.ireturn, 1) := by decide +kernel
theorem dX9_kinds_0 : decode cX9_kinds 0 = .ok (.iload_n 1, 1) := by decide +kernel
theorem dX9_kinds_1 : decode cX9_kinds 1 = .ok (.iconst 0, 1) := by decide +kernel
theorem dX9_kinds_2 : decode cX9_kinds 2 = .ok (.bipush 7, 2) := by decide +kernel
theorem dX9_kinds_4 : decode cX9_kinds 4 = .ok (.invokestatic 82, 3) := by decide +kernel
theorem dX9_kinds_7 : decode cX9_kinds 7 = .ok (.ifCond .ne 10, 3) := by decide +kernel
theorem dX9_kinds_10 : decode cX9_kinds 10 = .ok (.aload_n 0, 1) := by decide +kernel
theorem dX9_kinds_11 : decode cX9_kinds 11 = .ok (.bipush (-2), 2) := by decide +kernel
theorem dX9_kinds_13 : decode cX9_kinds 13 = .ok (.invokevirtual 188, 3) := by decide +kernel
theorem dX9_kinds_16 : decode cX9_kinds 16 = .ok (.ireturn, 1) := by decide +kernel
theorem dX9_kinds_17 : decode cX9_kinds 17 = .ok (.iconst 0, 1) := by decide +kernel
theorem dX9_kinds_18 : decode cX9_kinds 18 = .ok (.istore_n 2, 1) := by decide +kernel
theorem dX9_kinds_19 : decode cX9_kinds 19 = .ok (.iconst 0, 1) := by decide +kernel
theorem dX9_kinds_20 : decode cX9_kinds 20 = .ok (.istore_n 3, 1) := by decide +kernel
theorem dX9_kinds_21 : decode cX9_kinds 21 = .ok (.iload_n 3, 1) := by decide +kernel
theorem dX9_kinds_22 : decode cX9_kinds 22 = .ok (.aload_n 0, 1) := by decide +kernel
theorem dX9_kinds_23 : decode cX9_kinds 23 = .ok (.getfield 79, 3) := by decide +kernel
theorem dX9_kinds_26 : decode cX9_kinds 26 = .ok (.if_icmp .ge 27, 3) := by decide +kernel
theorem dX9_kinds_29 : decode cX9_kinds 29 = .ok (.iload_n 2, 1) := by decide +kernel
theorem dX9_kinds_30 : decode cX9_kinds 30 = .ok (.aload_n 0, 1) := by decide +kernel
theorem dX9_kinds_31 : decode cX9_kinds 31 = .ok (.getfield 13, 3) := by decide +kernel
theorem dX9_kinds_34 : decode cX9_kinds 34 = .ok (.iload_n 3, 1) := by decide +kernel
theorem dX9_kinds_35 : decode cX9_kinds 35 = .ok (.iaload, 1) := by decide +kernel
theorem dX9_kinds_36 : decode cX9_kinds 36 = .ok (.iload_n 1, 1) := by decide +kernel
theorem dX9_kinds_37 : decode cX9_kinds 37 = .ok (.if_icmp .ne 7, 3) := by decide +kernel
theorem dX9_kinds_40 : decode cX9_kinds 40 = .ok (.iconst 1, 1) := by decide +kernel
theorem dX9_kinds_41 : decode cX9_kinds 41 = .ok (.goto 4, 3) := by decide +kernel
theorem dX9_kinds_44 : decode cX9_kinds 44 = .ok (.iconst 0, 1) := by decide +kernel
theorem dX9_kinds_45 : decode cX9_kinds 45 = .ok (.iadd, 1) := by decide +kernel
theorem dX9_kinds_46 : decode cX9_kinds 46 = .ok (.istore_n 2, 1) := by decide +kernel
theorem dX9_kinds_47 : decode cX9_kinds 47 = .ok (.iinc 3 1, 3) := by decide +kernel
theorem dX9_kinds_50 : decode cX9_kinds 50 = .ok (.goto (-29), 3) := by decide +kernel
theorem dX9_kinds_53 : decode cX9_kinds 53 = .ok (.iload_n 2, 1) := by decide +kernel
theorem dX9_kinds_54 : decode cX9_kinds 54 = .ok (.ireturn, 1) := by decide +kernel
theorem dX9_row_0 : decode cX9_row 0 = .ok (.iload_n 1, 1) := by decide +kernel
theorem dX9_row_1 : decode cX9_row 1 = .ok (.iconst 0, 1) := by decide +kernel
theorem dX9_row_2 : decode cX9_row 2 = .ok (.bipush 99, 2) := by decide +kernel
theorem dX9_row_4 : decode cX9_row 4 = .ok (.invokestatic 182, 3) := by decide +kernel
theorem dX9_row_7 : decode cX9_row 7 = .ok (.istore_n 2, 1) := by decide +kernel
theorem dX9_row_8 : decode cX9_row 8 = .ok (.iload_n 2, 1) := by decide +kernel
theorem dX9_row_9 : decode cX9_row 9 = .ok (.ifCond .ne 15, 3) := by decide +kernel
theorem dX9_row_12 : decode cX9_row 12 = .ok (.aload_n 0, 1) := by decide +kernel
theorem dX9_row_13 : decode cX9_row 13 = .ok (.getfield 320, 3) := by decide +kernel
theorem dX9_row_16 : decode cX9_row 16 = .ok (.bipush 12, 2) := by decide +kernel
theorem dX9_row_18 : decode cX9_row 18 = .ok (.if_icmp .ne 6, 3) := by decide +kernel
theorem dX9_row_21 : decode cX9_row 21 = .ok (.bipush (-6), 2) := by decide +kernel
theorem dX9_row_23 : decode cX9_row 23 = .ok (.istore_n 2, 1) := by decide +kernel
theorem dX9_row_24 : decode cX9_row 24 = .ok (.iload_n 2, 1) := by decide +kernel
theorem dX9_row_25 : decode cX9_row 25 = .ok (.ifCond .eq 9, 3) := by decide +kernel
theorem dX9_row_28 : decode cX9_row 28 = .ok (.aload_n 0, 1) := by decide +kernel
theorem dX9_row_29 : decode cX9_row 29 = .ok (.iload_n 2, 1) := by decide +kernel
theorem dX9_row_30 : decode cX9_row 30 = .ok (.invokevirtual 188, 3) := by decide +kernel
theorem dX9_row_33 : decode cX9_row 33 = .ok (.ireturn, 1) := by decide +kernel
theorem dX9_row_34 : decode cX9_row 34 = .ok (.aload_n 0, 1) := by decide +kernel
theorem dX9_row_35 : decode cX9_row 35 = .ok (.getfield 62, 3) := by decide +kernel
theorem dX9_row_38 : decode cX9_row 38 = .ok (.aload_n 0, 1) := by decide +kernel
theorem dX9_row_39 : decode cX9_row 39 = .ok (.getfield 320, 3) := by decide +kernel
theorem dX9_row_42 : decode cX9_row 42 = .ok (.iload_n 1, 1) := by decide +kernel
theorem dX9_row_43 : decode cX9_row 43 = .ok (.iastore, 1) := by decide +kernel
theorem dX9_row_44 : decode cX9_row 44 = .ok (.aload_n 0, 1) := by decide +kernel
theorem dX9_row_45 : decode cX9_row 45 = .ok (.dup, 1) := by decide +kernel
theorem dX9_row_46 : decode cX9_row 46 = .ok (.getfield 320, 3) := by decide +kernel
theorem dX9_row_49 : decode cX9_row 49 = .ok (.iconst 1, 1) := by decide +kernel
theorem dX9_row_50 : decode cX9_row 50 = .ok (.iadd, 1) := by decide +kernel
theorem dX9_row_51 : decode cX9_row 51 = .ok (.putfield 320, 3) := by decide +kernel
theorem dX9_row_54 : decode cX9_row 54 = .ok (.aload_n 0, 1) := by decide +kernel
theorem dX9_row_55 : decode cX9_row 55 = .ok (.getfield 320, 3) := by decide +kernel
theorem dX9_row_58 : decode cX9_row 58 = .ok (.ireturn, 1) := by decide +kernel
theorem dX9_judge_0 : decode cX9_judge 0 = .ok (.aload_n 0, 1) := by decide +kernel
theorem dX9_judge_1 : decode cX9_judge 1 = .ok (.getfield 320, 3) := by decide +kernel
theorem dX9_judge_4 : decode cX9_judge 4 = .ok (.istore_n 1, 1) := by decide +kernel
theorem dX9_judge_5 : decode cX9_judge 5 = .ok (.aload_n 0, 1) := by decide +kernel
theorem dX9_judge_6 : decode cX9_judge 6 = .ok (.iconst 0, 1) := by decide +kernel
theorem dX9_judge_7 : decode cX9_judge 7 = .ok (.putfield 320, 3) := by decide +kernel
theorem dX9_judge_10 : decode cX9_judge 10 = .ok (.iconst 0, 1) := by decide +kernel
theorem dX9_judge_11 : decode cX9_judge 11 = .ok (.istore_n 2, 1) := by decide +kernel
theorem dX9_judge_12 : decode cX9_judge 12 = .ok (.iload_n 2, 1) := by decide +kernel
theorem dX9_judge_13 : decode cX9_judge 13 = .ok (.iload_n 1, 1) := by decide +kernel
theorem dX9_judge_14 : decode cX9_judge 14 = .ok (.if_icmp .ge 37, 3) := by decide +kernel
theorem dX9_judge_17 : decode cX9_judge 17 = .ok (.aload_n 0, 1) := by decide +kernel
theorem dX9_judge_18 : decode cX9_judge 18 = .ok (.iload_n 2, 1) := by decide +kernel
theorem dX9_judge_19 : decode cX9_judge 19 = .ok (.invokevirtual 153, 3) := by decide +kernel
theorem dX9_judge_22 : decode cX9_judge 22 = .ok (.ifCond .eq 21, 3) := by decide +kernel
theorem dX9_judge_25 : decode cX9_judge 25 = .ok (.aload_n 0, 1) := by decide +kernel
theorem dX9_judge_26 : decode cX9_judge 26 = .ok (.getfield 34, 3) := by decide +kernel
theorem dX9_judge_29 : decode cX9_judge 29 = .ok (.iload_n 2, 1) := by decide +kernel
theorem dX9_judge_30 : decode cX9_judge 30 = .ok (.laload, 1) := by decide +kernel
theorem dX9_judge_31 : decode cX9_judge 31 = .ok (.invokestatic 113, 3) := by decide +kernel
theorem dX9_judge_34 : decode cX9_judge 34 = .ok (.aload_n 0, 1) := by decide +kernel
theorem dX9_judge_35 : decode cX9_judge 35 = .ok (.getfield 62, 3) := by decide +kernel
theorem dX9_judge_38 : decode cX9_judge 38 = .ok (.iload_n 2, 1) := by decide +kernel
theorem dX9_judge_39 : decode cX9_judge 39 = .ok (.iaload, 1) := by decide +kernel
theorem dX9_judge_40 : decode cX9_judge 40 = .ok (.if_icmp .eq 5, 3) := by decide +kernel
theorem dX9_judge_43 : decode cX9_judge 43 = .ok (.iload_n 2, 1) := by decide +kernel
theorem dX9_judge_44 : decode cX9_judge 44 = .ok (.ireturn, 1) := by decide +kernel
theorem dX9_judge_45 : decode cX9_judge 45 = .ok (.iinc 2 1, 3) := by decide +kernel
theorem dX9_judge_48 : decode cX9_judge 48 = .ok (.goto (-36), 3) := by decide +kernel
theorem dX9_judge_51 : decode cX9_judge 51 = .ok (.bipush (-9), 2) := by decide +kernel
theorem dX9_judge_53 : decode cX9_judge 53 = .ok (.ireturn, 1) := by decide +kernel
theorem dX9_clear_0 : decode cX9_clear 0 = .ok (.aload_n 0, 1) := by decide +kernel
theorem dX9_clear_1 : decode cX9_clear 1 = .ok (.getfield 320, 3) := by decide +kernel
theorem dX9_clear_4 : decode cX9_clear 4 = .ok (.istore_n 1, 1) := by decide +kernel
theorem dX9_clear_5 : decode cX9_clear 5 = .ok (.aload_n 0, 1) := by decide +kernel
theorem dX9_clear_6 : decode cX9_clear 6 = .ok (.iconst 0, 1) := by decide +kernel
theorem dX9_clear_7 : decode cX9_clear 7 = .ok (.putfield 320, 3) := by decide +kernel
theorem dX9_clear_10 : decode cX9_clear 10 = .ok (.iload_n 1, 1) := by decide +kernel
theorem dX9_clear_11 : decode cX9_clear 11 = .ok (.ireturn, 1) := by decide +kernel
theorem dX9_draw_0 : decode cX9_draw 0 = .ok (.aload_n 0, 1) := by decide +kernel
theorem dX9_draw_1 : decode cX9_draw 1 = .ok (.aload_n 0, 1) := by decide +kernel
theorem dX9_draw_2 : decode cX9_draw 2 = .ok (.getfield 372, 3) := by decide +kernel
theorem dX9_draw_5 : decode cX9_draw 5 = .ok (.ldc_w 375, 3) := by decide +kernel
theorem dX9_draw_8 : decode cX9_draw 8 = .ok (.imul, 1) := by decide +kernel
theorem dX9_draw_9 : decode cX9_draw 9 = .ok (.sipush 12345, 3) := by decide +kernel
theorem dX9_draw_12 : decode cX9_draw 12 = .ok (.iadd, 1) := by decide +kernel
theorem dX9_draw_13 : decode cX9_draw 13 = .ok (.putfield 372, 3) := by decide +kernel
theorem dX9_draw_16 : decode cX9_draw 16 = .ok (.aload_n 0, 1) := by decide +kernel
theorem dX9_draw_17 : decode cX9_draw 17 = .ok (.getfield 372, 3) := by decide +kernel
theorem dX9_draw_20 : decode cX9_draw 20 = .ok (.ldc_w 376, 3) := by decide +kernel
theorem dX9_draw_23 : decode cX9_draw 23 = .ok (.iand, 1) := by decide +kernel
theorem dX9_draw_24 : decode cX9_draw 24 = .ok (.ldc_w 377, 3) := by decide +kernel
theorem dX9_draw_27 : decode cX9_draw 27 = .ok (.idiv, 1) := by decide +kernel
theorem dX9_draw_28 : decode cX9_draw 28 = .ok (.iload_n 1, 1) := by decide +kernel
theorem dX9_draw_29 : decode cX9_draw 29 = .ok (.irem, 1) := by decide +kernel
theorem dX9_draw_30 : decode cX9_draw 30 = .ok (.ireturn, 1) := by decide +kernel
theorem dX9_knowsByLot_0 : decode cX9_knowsByLot 0 = .ok (.aload_n 0, 1) := by decide +kernel
theorem dX9_knowsByLot_1 : decode cX9_knowsByLot 1 = .ok (.aload_n 0, 1) := by decide +kernel
theorem dX9_knowsByLot_2 : decode cX9_knowsByLot 2 = .ok (.getfield 79, 3) := by decide +kernel
theorem dX9_knowsByLot_5 : decode cX9_knowsByLot 5 = .ok (.invokevirtual 378, 3) := by decide +kernel
theorem dX9_knowsByLot_8 : decode cX9_knowsByLot 8 = .ok (.istore_n 1, 1) := by decide +kernel
theorem dX9_knowsByLot_9 : decode cX9_knowsByLot 9 = .ok (.aload_n 0, 1) := by decide +kernel
theorem dX9_knowsByLot_10 : decode cX9_knowsByLot 10 = .ok (.getfield 34, 3) := by decide +kernel
theorem dX9_knowsByLot_13 : decode cX9_knowsByLot 13 = .ok (.iload_n 1, 1) := by decide +kernel
theorem dX9_knowsByLot_14 : decode cX9_knowsByLot 14 = .ok (.dup2, 1) := by decide +kernel
theorem dX9_knowsByLot_15 : decode cX9_knowsByLot 15 = .ok (.laload, 1) := by decide +kernel
theorem dX9_knowsByLot_16 : decode cX9_knowsByLot 16 = .ok (.lconst 1, 1) := by decide +kernel
theorem dX9_knowsByLot_17 : decode cX9_knowsByLot 17 = .ok (.aload_n 0, 1) := by decide +kernel
theorem dX9_knowsByLot_18 : decode cX9_knowsByLot 18 = .ok (.bipush 40, 2) := by decide +kernel
theorem dX9_knowsByLot_20 : decode cX9_knowsByLot 20 = .ok (.invokevirtual 378, 3) := by decide +kernel
theorem dX9_knowsByLot_23 : decode cX9_knowsByLot 23 = .ok (.lshl, 1) := by decide +kernel
theorem dX9_knowsByLot_24 : decode cX9_knowsByLot 24 = .ok (.lor, 1) := by decide +kernel
theorem dX9_knowsByLot_25 : decode cX9_knowsByLot 25 = .ok (.lastore, 1) := by decide +kernel
theorem dX9_knowsByLot_26 : decode cX9_knowsByLot 26 = .ok (.return_, 1) := by decide +kernel
theorem dX9_lots_0 : decode cX9_lots 0 = .ok (.iload_n 1, 1) := by decide +kernel
theorem dX9_lots_1 : decode cX9_lots 1 = .ok (.iconst 1, 1) := by decide +kernel
theorem dX9_lots_2 : decode cX9_lots 2 = .ok (.bipush 20, 2) := by decide +kernel
theorem dX9_lots_4 : decode cX9_lots 4 = .ok (.invokestatic 182, 3) := by decide +kernel
theorem dX9_lots_7 : decode cX9_lots 7 = .ok (.istore 4, 2) := by decide +kernel
theorem dX9_lots_9 : decode cX9_lots 9 = .ok (.iload 4, 2) := by decide +kernel
theorem dX9_lots_11 : decode cX9_lots 11 = .ok (.ifCond .ne 16, 3) := by decide +kernel
theorem dX9_lots_14 : decode cX9_lots 14 = .ok (.iload_n 3, 1) := by decide +kernel
theorem dX9_lots_15 : decode cX9_lots 15 = .ok (.iconst 0, 1) := by decide +kernel
theorem dX9_lots_16 : decode cX9_lots 16 = .ok (.iconst 1, 1) := by decide +kernel
theorem dX9_lots_17 : decode cX9_lots 17 = .ok (.invokestatic 82, 3) := by decide +kernel
theorem dX9_lots_20 : decode cX9_lots 20 = .ok (.ifCond .ne 7, 3) := by decide +kernel
theorem dX9_lots_23 : decode cX9_lots 23 = .ok (.bipush (-2), 2) := by decide +kernel
theorem dX9_lots_25 : decode cX9_lots 25 = .ok (.istore 4, 2) := by decide +kernel
theorem dX9_lots_27 : decode cX9_lots 27 = .ok (.iload 4, 2) := by decide +kernel
theorem dX9_lots_29 : decode cX9_lots 29 = .ok (.ifCond .eq 10, 3) := by decide +kernel
theorem dX9_lots_32 : decode cX9_lots 32 = .ok (.aload_n 0, 1) := by decide +kernel
theorem dX9_lots_33 : decode cX9_lots 33 = .ok (.iload 4, 2) := by decide +kernel
theorem dX9_lots_35 : decode cX9_lots 35 = .ok (.invokevirtual 188, 3) := by decide +kernel
theorem dX9_lots_38 : decode cX9_lots 38 = .ok (.ireturn, 1) := by decide +kernel
theorem dX9_lots_39 : decode cX9_lots 39 = .ok (.aload_n 0, 1) := by decide +kernel
theorem dX9_lots_40 : decode cX9_lots 40 = .ok (.iload_n 2, 1) := by decide +kernel
theorem dX9_lots_41 : decode cX9_lots 41 = .ok (.putfield 372, 3) := by decide +kernel
theorem dX9_lots_44 : decode cX9_lots 44 = .ok (.iconst 0, 1) := by decide +kernel
theorem dX9_lots_45 : decode cX9_lots 45 = .ok (.istore 5, 2) := by decide +kernel
theorem dX9_lots_47 : decode cX9_lots 47 = .ok (.iconst 0, 1) := by decide +kernel
theorem dX9_lots_48 : decode cX9_lots 48 = .ok (.istore 6, 2) := by decide +kernel
theorem dX9_lots_50 : decode cX9_lots 50 = .ok (.iload 6, 2) := by decide +kernel
theorem dX9_lots_52 : decode cX9_lots 52 = .ok (.iload_n 1, 1) := by decide +kernel
theorem dX9_lots_53 : decode cX9_lots 53 = .ok (.if_icmp .ge 96, 3) := by decide +kernel
theorem dX9_lots_56 : decode cX9_lots 56 = .ok (.iload_n 3, 1) := by decide +kernel
theorem dX9_lots_57 : decode cX9_lots 57 = .ok (.ifCond .ne 13, 3) := by decide +kernel
theorem dX9_lots_60 : decode cX9_lots 60 = .ok (.aload_n 0, 1) := by decide +kernel
theorem dX9_lots_61 : decode cX9_lots 61 = .ok (.getfield 86, 3) := by decide +kernel
theorem dX9_lots_64 : decode cX9_lots 64 = .ok (.invokestatic 113, 3) := by decide +kernel
theorem dX9_lots_67 : decode cX9_lots 67 = .ok (.goto 7, 3) := by decide +kernel
theorem dX9_lots_70 : decode cX9_lots 70 = .ok (.aload_n 0, 1) := by decide +kernel
theorem dX9_lots_71 : decode cX9_lots 71 = .ok (.getfield 128, 3) := by decide +kernel
theorem dX9_lots_74 : decode cX9_lots 74 = .ok (.istore 7, 2) := by decide +kernel
theorem dX9_lots_76 : decode cX9_lots 76 = .ok (.aload_n 0, 1) := by decide +kernel
theorem dX9_lots_77 : decode cX9_lots 77 = .ok (.invokevirtual 289, 3) := by decide +kernel
theorem dX9_lots_80 : decode cX9_lots 80 = .ok (.iconst 0, 1) := by decide +kernel
theorem dX9_lots_81 : decode cX9_lots 81 = .ok (.istore 8, 2) := by decide +kernel
theorem dX9_lots_83 : decode cX9_lots 83 = .ok (.iload 8, 2) := by decide +kernel
theorem dX9_lots_85 : decode cX9_lots 85 = .ok (.bipush 10, 2) := by decide +kernel
theorem dX9_lots_87 : decode cX9_lots 87 = .ok (.if_icmp .ge 20, 3) := by decide +kernel
theorem dX9_lots_90 : decode cX9_lots 90 = .ok (.aload_n 0, 1) := by decide +kernel
theorem dX9_lots_91 : decode cX9_lots 91 = .ok (.getfield 79, 3) := by decide +kernel
theorem dX9_lots_94 : decode cX9_lots 94 = .ok (.ifCond .le 13, 3) := by decide +kernel
theorem dX9_lots_97 : decode cX9_lots 97 = .ok (.aload_n 0, 1) := by decide +kernel
theorem dX9_lots_98 : decode cX9_lots 98 = .ok (.invokevirtual 381, 3) := by decide +kernel
theorem dX9_lots_101 : decode cX9_lots 101 = .ok (.iinc 8 1, 3) := by decide +kernel
theorem dX9_lots_104 : decode cX9_lots 104 = .ok (.goto (-21), 3) := by decide +kernel
theorem dX9_lots_107 : decode cX9_lots 107 = .ok (.aload_n 0, 1) := by decide +kernel
theorem dX9_lots_108 : decode cX9_lots 108 = .ok (.bipush 12, 2) := by decide +kernel
theorem dX9_lots_110 : decode cX9_lots 110 = .ok (.invokevirtual 217, 3) := by decide +kernel
theorem dX9_lots_113 : decode cX9_lots 113 = .ok (.iload 5, 2) := by decide +kernel
theorem dX9_lots_115 : decode cX9_lots 115 = .ok (.iload_n 3, 1) := by decide +kernel
theorem dX9_lots_116 : decode cX9_lots 116 = .ok (.ifCond .ne 13, 3) := by decide +kernel
theorem dX9_lots_119 : decode cX9_lots 119 = .ok (.aload_n 0, 1) := by decide +kernel
theorem dX9_lots_120 : decode cX9_lots 120 = .ok (.getfield 86, 3) := by decide +kernel
theorem dX9_lots_123 : decode cX9_lots 123 = .ok (.invokestatic 113, 3) := by decide +kernel
theorem dX9_lots_126 : decode cX9_lots 126 = .ok (.goto 7, 3) := by decide +kernel
theorem dX9_lots_129 : decode cX9_lots 129 = .ok (.aload_n 0, 1) := by decide +kernel
theorem dX9_lots_130 : decode cX9_lots 130 = .ok (.getfield 128, 3) := by decide +kernel
theorem dX9_lots_133 : decode cX9_lots 133 = .ok (.iload 7, 2) := by decide +kernel
theorem dX9_lots_135 : decode cX9_lots 135 = .ok (.isub, 1) := by decide +kernel
theorem dX9_lots_136 : decode cX9_lots 136 = .ok (.iadd, 1) := by decide +kernel
theorem dX9_lots_137 : decode cX9_lots 137 = .ok (.istore 5, 2) := by decide +kernel
theorem dX9_lots_139 : decode cX9_lots 139 = .ok (.aload_n 0, 1) := by decide +kernel
theorem dX9_lots_140 : decode cX9_lots 140 = .ok (.invokevirtual 292, 3) := by decide +kernel
theorem dX9_lots_143 : decode cX9_lots 143 = .ok (.iinc 6 1, 3) := by decide +kernel
theorem dX9_lots_146 : decode cX9_lots 146 = .ok (.goto (-96), 3) := by decide +kernel
theorem dX9_lots_149 : decode cX9_lots 149 = .ok (.iload 5, 2) := by decide +kernel
theorem dX9_lots_151 : decode cX9_lots 151 = .ok (.ireturn, 1) := by decide +kernel
theorem dX9_count_0 : decode cX9_count 0 = .ok (.iload_n 1, 1) := by decide +kernel
theorem dX9_count_1 : decode cX9_count 1 = .ok (.bipush 11, 2) := by decide +kernel
theorem dX9_count_3 : decode cX9_count 3 = .ok (.bipush 16, 2) := by decide +kernel
theorem dX9_count_5 : decode cX9_count 5 = .ok (.invokestatic 82, 3) := by decide +kernel
theorem dX9_count_8 : decode cX9_count 8 = .ok (.ifCond .eq 13, 3) := by decide +kernel
theorem dX9_count_11 : decode cX9_count 11 = .ok (.aload_n 0, 1) := by decide +kernel
theorem dX9_count_12 : decode cX9_count 12 = .ok (.getfield 7, 3) := by decide +kernel
theorem dX9_count_15 : decode cX9_count 15 = .ok (.iload_n 1, 1) := by decide +kernel
theorem dX9_count_16 : decode cX9_count 16 = .ok (.bipush 10, 2) := by decide +kernel
theorem dX9_count_18 : decode cX9_count 18 = .ok (.isub, 1) := by decide +kernel
theorem dX9_count_19 : decode cX9_count 19 = .ok (.iaload, 1) := by decide +kernel
theorem dX9_count_20 : decode cX9_count 20 = .ok (.ireturn, 1) := by decide +kernel
theorem dX9_count_21 : decode cX9_count 21 = .ok (.iload_n 1, 1) := by decide +kernel
theorem dX9_count_22 : decode cX9_count 22 = .ok (.tableswitch 119 0 10 #[58, 63, 68, 73, 78, 83, 88, 96, 104, 109, 114], 58) := by decide +kernel
theorem dX9_count_80 : decode cX9_count 80 = .ok (.aload_n 0, 1) := by decide +kernel
theorem dX9_count_81 : decode cX9_count 81 = .ok (.getfield 79, 3) := by decide +kernel
theorem dX9_count_84 : decode cX9_count 84 = .ok (.ireturn, 1) := by decide +kernel
theorem dX9_count_85 : decode cX9_count 85 = .ok (.aload_n 0, 1) := by decide +kernel
theorem dX9_count_86 : decode cX9_count 86 = .ok (.getfield 147, 3) := by decide +kernel
theorem dX9_count_89 : decode cX9_count 89 = .ok (.ireturn, 1) := by decide +kernel
theorem dX9_count_90 : decode cX9_count 90 = .ok (.aload_n 0, 1) := by decide +kernel
theorem dX9_count_91 : decode cX9_count 91 = .ok (.getfield 68, 3) := by decide +kernel
theorem dX9_count_94 : decode cX9_count 94 = .ok (.ireturn, 1) := by decide +kernel
theorem dX9_count_95 : decode cX9_count 95 = .ok (.aload_n 0, 1) := by decide +kernel
theorem dX9_count_96 : decode cX9_count 96 = .ok (.getfield 128, 3) := by decide +kernel
theorem dX9_count_99 : decode cX9_count 99 = .ok (.ireturn, 1) := by decide +kernel
theorem dX9_count_100 : decode cX9_count 100 = .ok (.aload_n 0, 1) := by decide +kernel
theorem dX9_count_101 : decode cX9_count 101 = .ok (.getfield 110, 3) := by decide +kernel
theorem dX9_count_104 : decode cX9_count 104 = .ok (.ireturn, 1) := by decide +kernel
theorem dX9_count_105 : decode cX9_count 105 = .ok (.aload_n 0, 1) := by decide +kernel
theorem dX9_count_106 : decode cX9_count 106 = .ok (.getfield 134, 3) := by decide +kernel
theorem dX9_count_109 : decode cX9_count 109 = .ok (.ireturn, 1) := by decide +kernel
theorem dX9_count_110 : decode cX9_count 110 = .ok (.aload_n 0, 1) := by decide +kernel
theorem dX9_count_111 : decode cX9_count 111 = .ok (.getfield 86, 3) := by decide +kernel
theorem dX9_count_114 : decode cX9_count 114 = .ok (.invokestatic 113, 3) := by decide +kernel
theorem dX9_count_117 : decode cX9_count 117 = .ok (.ireturn, 1) := by decide +kernel
theorem dX9_count_118 : decode cX9_count 118 = .ok (.aload_n 0, 1) := by decide +kernel
theorem dX9_count_119 : decode cX9_count 119 = .ok (.getfield 94, 3) := by decide +kernel
theorem dX9_count_122 : decode cX9_count 122 = .ok (.invokestatic 113, 3) := by decide +kernel
theorem dX9_count_125 : decode cX9_count 125 = .ok (.ireturn, 1) := by decide +kernel
theorem dX9_count_126 : decode cX9_count 126 = .ok (.aload_n 0, 1) := by decide +kernel
theorem dX9_count_127 : decode cX9_count 127 = .ok (.getfield 185, 3) := by decide +kernel
theorem dX9_count_130 : decode cX9_count 130 = .ok (.ireturn, 1) := by decide +kernel
theorem dX9_count_131 : decode cX9_count 131 = .ok (.aload_n 0, 1) := by decide +kernel
theorem dX9_count_132 : decode cX9_count 132 = .ok (.getfield 320, 3) := by decide +kernel
theorem dX9_count_135 : decode cX9_count 135 = .ok (.ireturn, 1) := by decide +kernel
theorem dX9_count_136 : decode cX9_count 136 = .ok (.aload_n 0, 1) := by decide +kernel
theorem dX9_count_137 : decode cX9_count 137 = .ok (.getfield 247, 3) := by decide +kernel
theorem dX9_count_140 : decode cX9_count 140 = .ok (.ireturn, 1) := by decide +kernel
theorem dX9_count_141 : decode cX9_count 141 = .ok (.bipush (-9), 2) := by decide +kernel
theorem dX9_count_143 : decode cX9_count 143 = .ok (.ireturn, 1) := by decide +kernel
theorem dJ6_bitCount_0f7a4_0 : decode cJ6_bitCount_0f7a4 0 = .ok (.iload_n 0, 1) := by decide +kernel
theorem dJ6_bitCount_0f7a4_1 : decode cJ6_bitCount_0f7a4 1 = .ok (.iload_n 0, 1) := by decide +kernel
theorem dJ6_bitCount_0f7a4_2 : decode cJ6_bitCount_0f7a4 2 = .ok (.iconst 1, 1) := by decide +kernel
theorem dJ6_bitCount_0f7a4_3 : decode cJ6_bitCount_0f7a4 3 = .ok (.iushr, 1) := by decide +kernel
theorem dJ6_bitCount_0f7a4_4 : decode cJ6_bitCount_0f7a4 4 = .ok (.ldc_w 265, 3) := by decide +kernel
theorem dJ6_bitCount_0f7a4_7 : decode cJ6_bitCount_0f7a4 7 = .ok (.iand, 1) := by decide +kernel
theorem dJ6_bitCount_0f7a4_8 : decode cJ6_bitCount_0f7a4 8 = .ok (.isub, 1) := by decide +kernel
theorem dJ6_bitCount_0f7a4_9 : decode cJ6_bitCount_0f7a4 9 = .ok (.istore_n 0, 1) := by decide +kernel
theorem dJ6_bitCount_0f7a4_10 : decode cJ6_bitCount_0f7a4 10 = .ok (.iload_n 0, 1) := by decide +kernel
theorem dJ6_bitCount_0f7a4_11 : decode cJ6_bitCount_0f7a4 11 = .ok (.ldc_w 266, 3) := by decide +kernel
theorem dJ6_bitCount_0f7a4_14 : decode cJ6_bitCount_0f7a4 14 = .ok (.iand, 1) := by decide +kernel
theorem dJ6_bitCount_0f7a4_15 : decode cJ6_bitCount_0f7a4 15 = .ok (.iload_n 0, 1) := by decide +kernel
theorem dJ6_bitCount_0f7a4_16 : decode cJ6_bitCount_0f7a4 16 = .ok (.iconst 2, 1) := by decide +kernel
theorem dJ6_bitCount_0f7a4_17 : decode cJ6_bitCount_0f7a4 17 = .ok (.iushr, 1) := by decide +kernel
theorem dJ6_bitCount_0f7a4_18 : decode cJ6_bitCount_0f7a4 18 = .ok (.ldc_w 266, 3) := by decide +kernel
theorem dJ6_bitCount_0f7a4_21 : decode cJ6_bitCount_0f7a4 21 = .ok (.iand, 1) := by decide +kernel
theorem dJ6_bitCount_0f7a4_22 : decode cJ6_bitCount_0f7a4 22 = .ok (.iadd, 1) := by decide +kernel
theorem dJ6_bitCount_0f7a4_23 : decode cJ6_bitCount_0f7a4 23 = .ok (.istore_n 0, 1) := by decide +kernel
theorem dJ6_bitCount_0f7a4_24 : decode cJ6_bitCount_0f7a4 24 = .ok (.iload_n 0, 1) := by decide +kernel
theorem dJ6_bitCount_0f7a4_25 : decode cJ6_bitCount_0f7a4 25 = .ok (.iload_n 0, 1) := by decide +kernel
theorem dJ6_bitCount_0f7a4_26 : decode cJ6_bitCount_0f7a4 26 = .ok (.iconst 4, 1) := by decide +kernel
theorem dJ6_bitCount_0f7a4_27 : decode cJ6_bitCount_0f7a4 27 = .ok (.iushr, 1) := by decide +kernel
theorem dJ6_bitCount_0f7a4_28 : decode cJ6_bitCount_0f7a4 28 = .ok (.iadd, 1) := by decide +kernel
theorem dJ6_bitCount_0f7a4_29 : decode cJ6_bitCount_0f7a4 29 = .ok (.ldc_w 267, 3) := by decide +kernel
theorem dJ6_bitCount_0f7a4_32 : decode cJ6_bitCount_0f7a4 32 = .ok (.iand, 1) := by decide +kernel
theorem dJ6_bitCount_0f7a4_33 : decode cJ6_bitCount_0f7a4 33 = .ok (.istore_n 0, 1) := by decide +kernel
theorem dJ6_bitCount_0f7a4_34 : decode cJ6_bitCount_0f7a4 34 = .ok (.iload_n 0, 1) := by decide +kernel
theorem dJ6_bitCount_0f7a4_35 : decode cJ6_bitCount_0f7a4 35 = .ok (.iload_n 0, 1) := by decide +kernel
theorem dJ6_bitCount_0f7a4_36 : decode cJ6_bitCount_0f7a4 36 = .ok (.bipush 8, 2) := by decide +kernel
theorem dJ6_bitCount_0f7a4_38 : decode cJ6_bitCount_0f7a4 38 = .ok (.iushr, 1) := by decide +kernel
theorem dJ6_bitCount_0f7a4_39 : decode cJ6_bitCount_0f7a4 39 = .ok (.iadd, 1) := by decide +kernel
theorem dJ6_bitCount_0f7a4_40 : decode cJ6_bitCount_0f7a4 40 = .ok (.istore_n 0, 1) := by decide +kernel
theorem dJ6_bitCount_0f7a4_41 : decode cJ6_bitCount_0f7a4 41 = .ok (.iload_n 0, 1) := by decide +kernel
theorem dJ6_bitCount_0f7a4_42 : decode cJ6_bitCount_0f7a4 42 = .ok (.iload_n 0, 1) := by decide +kernel
theorem dJ6_bitCount_0f7a4_43 : decode cJ6_bitCount_0f7a4 43 = .ok (.bipush 16, 2) := by decide +kernel
theorem dJ6_bitCount_0f7a4_45 : decode cJ6_bitCount_0f7a4 45 = .ok (.iushr, 1) := by decide +kernel
theorem dJ6_bitCount_0f7a4_46 : decode cJ6_bitCount_0f7a4 46 = .ok (.iadd, 1) := by decide +kernel
theorem dJ6_bitCount_0f7a4_47 : decode cJ6_bitCount_0f7a4 47 = .ok (.istore_n 0, 1) := by decide +kernel
theorem dJ6_bitCount_0f7a4_48 : decode cJ6_bitCount_0f7a4 48 = .ok (.iload_n 0, 1) := by decide +kernel
theorem dJ6_bitCount_0f7a4_49 : decode cJ6_bitCount_0f7a4 49 = .ok (.bipush 63, 2) := by decide +kernel
theorem dJ6_bitCount_0f7a4_51 : decode cJ6_bitCount_0f7a4 51 = .ok (.iand, 1) := by decide +kernel
theorem dJ6_bitCount_0f7a4_52 : decode cJ6_bitCount_0f7a4 52 = .ok (.ireturn, 1) := by decide +kernel
theorem dJ13_bitCount_95d88_0 : decode cJ13_bitCount_95d88 0 = .ok (.lload_n 0, 1) := by decide +kernel
theorem dJ13_bitCount_95d88_1 : decode cJ13_bitCount_95d88 1 = .ok (.lload_n 0, 1) := by decide +kernel
theorem dJ13_bitCount_95d88_2 : decode cJ13_bitCount_95d88 2 = .ok (.iconst 1, 1) := by decide +kernel
theorem dJ13_bitCount_95d88_3 : decode cJ13_bitCount_95d88 3 = .ok (.lushr, 1) := by decide +kernel
theorem dJ13_bitCount_95d88_4 : decode cJ13_bitCount_95d88 4 = .ok (.ldc2_w 314, 3) := by decide +kernel
theorem dJ13_bitCount_95d88_7 : decode cJ13_bitCount_95d88 7 = .ok (.land, 1) := by decide +kernel
theorem dJ13_bitCount_95d88_8 : decode cJ13_bitCount_95d88 8 = .ok (.lsub, 1) := by decide +kernel
theorem dJ13_bitCount_95d88_9 : decode cJ13_bitCount_95d88 9 = .ok (.lstore_n 0, 1) := by decide +kernel
theorem dJ13_bitCount_95d88_10 : decode cJ13_bitCount_95d88 10 = .ok (.lload_n 0, 1) := by decide +kernel
theorem dJ13_bitCount_95d88_11 : decode cJ13_bitCount_95d88 11 = .ok (.ldc2_w 316, 3) := by decide +kernel
theorem dJ13_bitCount_95d88_14 : decode cJ13_bitCount_95d88 14 = .ok (.land, 1) := by decide +kernel
theorem dJ13_bitCount_95d88_15 : decode cJ13_bitCount_95d88 15 = .ok (.lload_n 0, 1) := by decide +kernel
theorem dJ13_bitCount_95d88_16 : decode cJ13_bitCount_95d88 16 = .ok (.iconst 2, 1) := by decide +kernel
theorem dJ13_bitCount_95d88_17 : decode cJ13_bitCount_95d88 17 = .ok (.lushr, 1) := by decide +kernel
theorem dJ13_bitCount_95d88_18 : decode cJ13_bitCount_95d88 18 = .ok (.ldc2_w 316, 3) := by decide +kernel
theorem dJ13_bitCount_95d88_21 : decode cJ13_bitCount_95d88 21 = .ok (.land, 1) := by decide +kernel
theorem dJ13_bitCount_95d88_22 : decode cJ13_bitCount_95d88 22 = .ok (.ladd, 1) := by decide +kernel
theorem dJ13_bitCount_95d88_23 : decode cJ13_bitCount_95d88 23 = .ok (.lstore_n 0, 1) := by decide +kernel
theorem dJ13_bitCount_95d88_24 : decode cJ13_bitCount_95d88 24 = .ok (.lload_n 0, 1) := by decide +kernel
theorem dJ13_bitCount_95d88_25 : decode cJ13_bitCount_95d88 25 = .ok (.lload_n 0, 1) := by decide +kernel
theorem dJ13_bitCount_95d88_26 : decode cJ13_bitCount_95d88 26 = .ok (.iconst 4, 1) := by decide +kernel
theorem dJ13_bitCount_95d88_27 : decode cJ13_bitCount_95d88 27 = .ok (.lushr, 1) := by decide +kernel
theorem dJ13_bitCount_95d88_28 : decode cJ13_bitCount_95d88 28 = .ok (.ladd, 1) := by decide +kernel
theorem dJ13_bitCount_95d88_29 : decode cJ13_bitCount_95d88 29 = .ok (.ldc2_w 318, 3) := by decide +kernel
theorem dJ13_bitCount_95d88_32 : decode cJ13_bitCount_95d88 32 = .ok (.land, 1) := by decide +kernel
theorem dJ13_bitCount_95d88_33 : decode cJ13_bitCount_95d88 33 = .ok (.lstore_n 0, 1) := by decide +kernel
theorem dJ13_bitCount_95d88_34 : decode cJ13_bitCount_95d88 34 = .ok (.lload_n 0, 1) := by decide +kernel
theorem dJ13_bitCount_95d88_35 : decode cJ13_bitCount_95d88 35 = .ok (.lload_n 0, 1) := by decide +kernel
theorem dJ13_bitCount_95d88_36 : decode cJ13_bitCount_95d88 36 = .ok (.bipush 8, 2) := by decide +kernel
theorem dJ13_bitCount_95d88_38 : decode cJ13_bitCount_95d88 38 = .ok (.lushr, 1) := by decide +kernel
theorem dJ13_bitCount_95d88_39 : decode cJ13_bitCount_95d88 39 = .ok (.ladd, 1) := by decide +kernel
theorem dJ13_bitCount_95d88_40 : decode cJ13_bitCount_95d88 40 = .ok (.lstore_n 0, 1) := by decide +kernel
theorem dJ13_bitCount_95d88_41 : decode cJ13_bitCount_95d88 41 = .ok (.lload_n 0, 1) := by decide +kernel
theorem dJ13_bitCount_95d88_42 : decode cJ13_bitCount_95d88 42 = .ok (.lload_n 0, 1) := by decide +kernel
theorem dJ13_bitCount_95d88_43 : decode cJ13_bitCount_95d88 43 = .ok (.bipush 16, 2) := by decide +kernel
theorem dJ13_bitCount_95d88_45 : decode cJ13_bitCount_95d88 45 = .ok (.lushr, 1) := by decide +kernel
theorem dJ13_bitCount_95d88_46 : decode cJ13_bitCount_95d88 46 = .ok (.ladd, 1) := by decide +kernel
theorem dJ13_bitCount_95d88_47 : decode cJ13_bitCount_95d88 47 = .ok (.lstore_n 0, 1) := by decide +kernel
theorem dJ13_bitCount_95d88_48 : decode cJ13_bitCount_95d88 48 = .ok (.lload_n 0, 1) := by decide +kernel
theorem dJ13_bitCount_95d88_49 : decode cJ13_bitCount_95d88 49 = .ok (.lload_n 0, 1) := by decide +kernel
theorem dJ13_bitCount_95d88_50 : decode cJ13_bitCount_95d88 50 = .ok (.bipush 32, 2) := by decide +kernel
theorem dJ13_bitCount_95d88_52 : decode cJ13_bitCount_95d88 52 = .ok (.lushr, 1) := by decide +kernel
theorem dJ13_bitCount_95d88_53 : decode cJ13_bitCount_95d88 53 = .ok (.ladd, 1) := by decide +kernel
theorem dJ13_bitCount_95d88_54 : decode cJ13_bitCount_95d88 54 = .ok (.lstore_n 0, 1) := by decide +kernel
theorem dJ13_bitCount_95d88_55 : decode cJ13_bitCount_95d88 55 = .ok (.lload_n 0, 1) := by decide +kernel
theorem dJ13_bitCount_95d88_56 : decode cJ13_bitCount_95d88 56 = .ok (.l2i, 1) := by decide +kernel
theorem dJ13_bitCount_95d88_57 : decode cJ13_bitCount_95d88 57 = .ok (.bipush 127, 2) := by decide +kernel
theorem dJ13_bitCount_95d88_59 : decode cJ13_bitCount_95d88 59 = .ok (.iand, 1) := by decide +kernel
theorem dJ13_bitCount_95d88_60 : decode cJ13_bitCount_95d88 60 = .ok (.ireturn, 1) := by decide +kernel
theorem dJ9_max_7cf53_0 : decode cJ9_max_7cf53 0 = .ok (.iload_n 0, 1) := by decide +kernel
theorem dJ9_max_7cf53_1 : decode cJ9_max_7cf53 1 = .ok (.iload_n 1, 1) := by decide +kernel
theorem dJ9_max_7cf53_2 : decode cJ9_max_7cf53 2 = .ok (.if_icmp .lt 7, 3) := by decide +kernel
theorem dJ9_max_7cf53_5 : decode cJ9_max_7cf53 5 = .ok (.iload_n 0, 1) := by decide +kernel
theorem dJ9_max_7cf53_6 : decode cJ9_max_7cf53 6 = .ok (.goto 4, 3) := by decide +kernel
theorem dJ9_max_7cf53_9 : decode cJ9_max_7cf53 9 = .ok (.iload_n 1, 1) := by decide +kernel
theorem dJ9_max_7cf53_10 : decode cJ9_max_7cf53 10 = .ok (.ireturn, 1) := by decide +kernel
theorem dJ9_min_7cf53_0 : decode cJ9_min_7cf53 0 = .ok (.iload_n 0, 1) := by decide +kernel
theorem dJ9_min_7cf53_1 : decode cJ9_min_7cf53 1 = .ok (.iload_n 1, 1) := by decide +kernel
theorem dJ9_min_7cf53_2 : decode cJ9_min_7cf53 2 = .ok (.if_icmp .gt 7, 3) := by decide +kernel
theorem dJ9_min_7cf53_5 : decode cJ9_min_7cf53 5 = .ok (.iload_n 0, 1) := by decide +kernel
theorem dJ9_min_7cf53_6 : decode cJ9_min_7cf53 6 = .ok (.goto 4, 3) := by decide +kernel
theorem dJ9_min_7cf53_9 : decode cJ9_min_7cf53 9 = .ok (.iload_n 1, 1) := by decide +kernel
theorem dJ9_min_7cf53_10 : decode cJ9_min_7cf53 10 = .ok (.ireturn, 1) := by decide +kernel
theorem dL_law_0 : decode cL_law 0 = .ok (.new 7, 3) := by decide +kernel
theorem dL_law_3 : decode cL_law 3 = .ok (.dup, 1) := by decide +kernel
theorem dL_law_4 : decode cL_law 4 = .ok (.invokespecial 9, 3) := by decide +kernel
theorem dL_law_7 : decode cL_law 7 = .ok (.astore_n 1, 1) := by decide +kernel
theorem dL_law_8 : decode cL_law 8 = .ok (.new 10, 3) := by decide +kernel
theorem dL_law_11 : decode cL_law 11 = .ok (.dup, 1) := by decide +kernel
theorem dL_law_12 : decode cL_law 12 = .ok (.invokespecial 12, 3) := by decide +kernel
theorem dL_law_15 : decode cL_law 15 = .ok (.astore_n 2, 1) := by decide +kernel
theorem dL_law_16 : decode cL_law 16 = .ok (.iconst 0, 1) := by decide +kernel
theorem dL_law_17 : decode cL_law 17 = .ok (.istore_n 3, 1) := by decide +kernel
theorem dL_law_18 : decode cL_law 18 = .ok (.iload_n 3, 1) := by decide +kernel
theorem dL_law_19 : decode cL_law 19 = .ok (.aload_n 0, 1) := by decide +kernel
theorem dL_law_20 : decode cL_law 20 = .ok (.arraylength, 1) := by decide +kernel
theorem dL_law_21 : decode cL_law 21 = .ok (.bipush 6, 2) := by decide +kernel
theorem dL_law_23 : decode cL_law 23 = .ok (.isub, 1) := by decide +kernel
theorem dL_law_24 : decode cL_law 24 = .ok (.if_icmp .gt 1416, 3) := by decide +kernel
theorem dL_law_27 : decode cL_law 27 = .ok (.aload_n 0, 1) := by decide +kernel
theorem dL_law_28 : decode cL_law 28 = .ok (.iload_n 3, 1) := by decide +kernel
theorem dL_law_29 : decode cL_law 29 = .ok (.iaload, 1) := by decide +kernel
theorem dL_law_30 : decode cL_law 30 = .ok (.bipush 63, 2) := by decide +kernel
theorem dL_law_32 : decode cL_law 32 = .ok (.iand, 1) := by decide +kernel
theorem dL_law_33 : decode cL_law 33 = .ok (.tableswitch 1401 0 41 #[183, 206, 219, 252, 285, 318, 351, 384, 417, 450, 473, 496, 519, 542, 555, 588, 621, 654, 677, 720, 763, 796, 849, 872, 895, 928, 961, 1004, 1068, 1101, 1144, 1167, 1191, 1214, 1237, 1260, 1283, 1296, 1309, 1352, 1365, 1378], 183) := by decide +kernel
theorem dL_law_216 : decode cL_law 216 = .ok (.aload_n 1, 1) := by decide +kernel
theorem dL_law_217 : decode cL_law 217 = .ok (.aload_n 0, 1) := by decide +kernel
theorem dL_law_218 : decode cL_law 218 = .ok (.iload_n 3, 1) := by decide +kernel
theorem dL_law_219 : decode cL_law 219 = .ok (.iconst 1, 1) := by decide +kernel
theorem dL_law_220 : decode cL_law 220 = .ok (.iadd, 1) := by decide +kernel
theorem dL_law_221 : decode cL_law 221 = .ok (.iaload, 1) := by decide +kernel
theorem dL_law_222 : decode cL_law 222 = .ok (.invokevirtual 13, 3) := by decide +kernel
theorem dL_law_225 : decode cL_law 225 = .ok (.aload_n 2, 1) := by decide +kernel
theorem dL_law_226 : decode cL_law 226 = .ok (.aload_n 0, 1) := by decide +kernel
theorem dL_law_227 : decode cL_law 227 = .ok (.iload_n 3, 1) := by decide +kernel
theorem dL_law_228 : decode cL_law 228 = .ok (.iconst 1, 1) := by decide +kernel
theorem dL_law_229 : decode cL_law 229 = .ok (.iadd, 1) := by decide +kernel
theorem dL_law_230 : decode cL_law 230 = .ok (.iaload, 1) := by decide +kernel
theorem dL_law_231 : decode cL_law 231 = .ok (.invokevirtual 17, 3) := by decide +kernel
theorem dL_law_234 : decode cL_law 234 = .ok (.if_icmp .eq 1200, 3) := by decide +kernel
theorem dL_law_237 : decode cL_law 237 = .ok (.iconst 0, 1) := by decide +kernel
theorem dL_law_238 : decode cL_law 238 = .ok (.ireturn, 1) := by decide +kernel
theorem dL_law_239 : decode cL_law 239 = .ok (.aload_n 1, 1) := by decide +kernel
theorem dL_law_240 : decode cL_law 240 = .ok (.invokevirtual 18, 3) := by decide +kernel
theorem dL_law_243 : decode cL_law 243 = .ok (.aload_n 2, 1) := by decide +kernel
theorem dL_law_244 : decode cL_law 244 = .ok (.invokevirtual 22, 3) := by decide +kernel
theorem dL_law_247 : decode cL_law 247 = .ok (.if_icmp .eq 1187, 3) := by decide +kernel
theorem dL_law_250 : decode cL_law 250 = .ok (.iconst 0, 1) := by decide +kernel
theorem dL_law_251 : decode cL_law 251 = .ok (.ireturn, 1) := by decide +kernel
theorem dL_law_252 : decode cL_law 252 = .ok (.aload_n 1, 1) := by decide +kernel
theorem dL_law_253 : decode cL_law 253 = .ok (.aload_n 0, 1) := by decide +kernel
theorem dL_law_254 : decode cL_law 254 = .ok (.iload_n 3, 1) := by decide +kernel
theorem dL_law_255 : decode cL_law 255 = .ok (.iconst 1, 1) := by decide +kernel
theorem dL_law_256 : decode cL_law 256 = .ok (.iadd, 1) := by decide +kernel
theorem dL_law_257 : decode cL_law 257 = .ok (.iaload, 1) := by decide +kernel
theorem dL_law_258 : decode cL_law 258 = .ok (.aload_n 0, 1) := by decide +kernel
theorem dL_law_259 : decode cL_law 259 = .ok (.iload_n 3, 1) := by decide +kernel
theorem dL_law_260 : decode cL_law 260 = .ok (.iconst 2, 1) := by decide +kernel
theorem dL_law_261 : decode cL_law 261 = .ok (.iadd, 1) := by decide +kernel
theorem dL_law_262 : decode cL_law 262 = .ok (.iaload, 1) := by decide +kernel
theorem dL_law_263 : decode cL_law 263 = .ok (.invokevirtual 23, 3) := by decide +kernel
theorem dL_law_266 : decode cL_law 266 = .ok (.aload_n 2, 1) := by decide +kernel
theorem dL_law_267 : decode cL_law 267 = .ok (.aload_n 0, 1) := by decide +kernel
theorem dL_law_268 : decode cL_law 268 = .ok (.iload_n 3, 1) := by decide +kernel
theorem dL_law_269 : decode cL_law 269 = .ok (.iconst 1, 1) := by decide +kernel
theorem dL_law_270 : decode cL_law 270 = .ok (.iadd, 1) := by decide +kernel
theorem dL_law_271 : decode cL_law 271 = .ok (.iaload, 1) := by decide +kernel
theorem dL_law_272 : decode cL_law 272 = .ok (.aload_n 0, 1) := by decide +kernel
theorem dL_law_273 : decode cL_law 273 = .ok (.iload_n 3, 1) := by decide +kernel
theorem dL_law_274 : decode cL_law 274 = .ok (.iconst 2, 1) := by decide +kernel
theorem dL_law_275 : decode cL_law 275 = .ok (.iadd, 1) := by decide +kernel
theorem dL_law_276 : decode cL_law 276 = .ok (.iaload, 1) := by decide +kernel
theorem dL_law_277 : decode cL_law 277 = .ok (.invokevirtual 27, 3) := by decide +kernel
theorem dL_law_280 : decode cL_law 280 = .ok (.if_icmp .eq 1154, 3) := by decide +kernel
theorem dL_law_283 : decode cL_law 283 = .ok (.iconst 0, 1) := by decide +kernel
theorem dL_law_284 : decode cL_law 284 = .ok (.ireturn, 1) := by decide +kernel
theorem dL_law_285 : decode cL_law 285 = .ok (.aload_n 1, 1) := by decide +kernel
theorem dL_law_286 : decode cL_law 286 = .ok (.aload_n 0, 1) := by decide +kernel
theorem dL_law_287 : decode cL_law 287 = .ok (.iload_n 3, 1) := by decide +kernel
theorem dL_law_288 : decode cL_law 288 = .ok (.iconst 1, 1) := by decide +kernel
theorem dL_law_289 : decode cL_law 289 = .ok (.iadd, 1) := by decide +kernel
theorem dL_law_290 : decode cL_law 290 = .ok (.iaload, 1) := by decide +kernel
theorem dL_law_291 : decode cL_law 291 = .ok (.aload_n 0, 1) := by decide +kernel
theorem dL_law_292 : decode cL_law 292 = .ok (.iload_n 3, 1) := by decide +kernel
theorem dL_law_293 : decode cL_law 293 = .ok (.iconst 2, 1) := by decide +kernel
theorem dL_law_294 : decode cL_law 294 = .ok (.iadd, 1) := by decide +kernel
theorem dL_law_295 : decode cL_law 295 = .ok (.iaload, 1) := by decide +kernel
theorem dL_law_296 : decode cL_law 296 = .ok (.invokevirtual 28, 3) := by decide +kernel
theorem dL_law_299 : decode cL_law 299 = .ok (.aload_n 2, 1) := by decide +kernel
theorem dL_law_300 : decode cL_law 300 = .ok (.aload_n 0, 1) := by decide +kernel
theorem dL_law_301 : decode cL_law 301 = .ok (.iload_n 3, 1) := by decide +kernel
theorem dL_law_302 : decode cL_law 302 = .ok (.iconst 1, 1) := by decide +kernel
theorem dL_law_303 : decode cL_law 303 = .ok (.iadd, 1) := by decide +kernel
theorem dL_law_304 : decode cL_law 304 = .ok (.iaload, 1) := by decide +kernel
theorem dL_law_305 : decode cL_law 305 = .ok (.aload_n 0, 1) := by decide +kernel
theorem dL_law_306 : decode cL_law 306 = .ok (.iload_n 3, 1) := by decide +kernel
theorem dL_law_307 : decode cL_law 307 = .ok (.iconst 2, 1) := by decide +kernel
theorem dL_law_308 : decode cL_law 308 = .ok (.iadd, 1) := by decide +kernel
theorem dL_law_309 : decode cL_law 309 = .ok (.iaload, 1) := by decide +kernel
theorem dL_law_310 : decode cL_law 310 = .ok (.invokevirtual 31, 3) := by decide +kernel
theorem dL_law_313 : decode cL_law 313 = .ok (.if_icmp .eq 1121, 3) := by decide +kernel
theorem dL_law_316 : decode cL_law 316 = .ok (.iconst 0, 1) := by decide +kernel
theorem dL_law_317 : decode cL_law 317 = .ok (.ireturn, 1) := by decide +kernel
theorem dL_law_318 : decode cL_law 318 = .ok (.aload_n 1, 1) := by decide +kernel
theorem dL_law_319 : decode cL_law 319 = .ok (.aload_n 0, 1) := by decide +kernel
theorem dL_law_320 : decode cL_law 320 = .ok (.iload_n 3, 1) := by decide +kernel
theorem dL_law_321 : decode cL_law 321 = .ok (.iconst 1, 1) := by decide +kernel
theorem dL_law_322 : decode cL_law 322 = .ok (.iadd, 1) := by decide +kernel
theorem dL_law_323 : decode cL_law 323 = .ok (.iaload, 1) := by decide +kernel
theorem dL_law_324 : decode cL_law 324 = .ok (.aload_n 0, 1) := by decide +kernel
theorem dL_law_325 : decode cL_law 325 = .ok (.iload_n 3, 1) := by decide +kernel
theorem dL_law_326 : decode cL_law 326 = .ok (.iconst 2, 1) := by decide +kernel
theorem dL_law_327 : decode cL_law 327 = .ok (.iadd, 1) := by decide +kernel
theorem dL_law_328 : decode cL_law 328 = .ok (.iaload, 1) := by decide +kernel
theorem dL_law_329 : decode cL_law 329 = .ok (.invokevirtual 32, 3) := by decide +kernel
theorem dL_law_332 : decode cL_law 332 = .ok (.aload_n 2, 1) := by decide +kernel
theorem dL_law_333 : decode cL_law 333 = .ok (.aload_n 0, 1) := by decide +kernel
theorem dL_law_334 : decode cL_law 334 = .ok (.iload_n 3, 1) := by decide +kernel
theorem dL_law_335 : decode cL_law 335 = .ok (.iconst 1, 1) := by decide +kernel
theorem dL_law_336 : decode cL_law 336 = .ok (.iadd, 1) := by decide +kernel
theorem dL_law_337 : decode cL_law 337 = .ok (.iaload, 1) := by decide +kernel
theorem dL_law_338 : decode cL_law 338 = .ok (.aload_n 0, 1) := by decide +kernel
theorem dL_law_339 : decode cL_law 339 = .ok (.iload_n 3, 1) := by decide +kernel
theorem dL_law_340 : decode cL_law 340 = .ok (.iconst 2, 1) := by decide +kernel
theorem dL_law_341 : decode cL_law 341 = .ok (.iadd, 1) := by decide +kernel
theorem dL_law_342 : decode cL_law 342 = .ok (.iaload, 1) := by decide +kernel
theorem dL_law_343 : decode cL_law 343 = .ok (.invokevirtual 35, 3) := by decide +kernel
theorem dL_law_346 : decode cL_law 346 = .ok (.if_icmp .eq 1088, 3) := by decide +kernel
theorem dL_law_349 : decode cL_law 349 = .ok (.iconst 0, 1) := by decide +kernel
theorem dL_law_350 : decode cL_law 350 = .ok (.ireturn, 1) := by decide +kernel
theorem dL_law_351 : decode cL_law 351 = .ok (.aload_n 1, 1) := by decide +kernel
theorem dL_law_352 : decode cL_law 352 = .ok (.aload_n 0, 1) := by decide +kernel
theorem dL_law_353 : decode cL_law 353 = .ok (.iload_n 3, 1) := by decide +kernel
theorem dL_law_354 : decode cL_law 354 = .ok (.iconst 1, 1) := by decide +kernel
theorem dL_law_355 : decode cL_law 355 = .ok (.iadd, 1) := by decide +kernel
theorem dL_law_356 : decode cL_law 356 = .ok (.iaload, 1) := by decide +kernel
theorem dL_law_357 : decode cL_law 357 = .ok (.aload_n 0, 1) := by decide +kernel
theorem dL_law_358 : decode cL_law 358 = .ok (.iload_n 3, 1) := by decide +kernel
theorem dL_law_359 : decode cL_law 359 = .ok (.iconst 2, 1) := by decide +kernel
theorem dL_law_360 : decode cL_law 360 = .ok (.iadd, 1) := by decide +kernel
theorem dL_law_361 : decode cL_law 361 = .ok (.iaload, 1) := by decide +kernel
theorem dL_law_362 : decode cL_law 362 = .ok (.invokevirtual 36, 3) := by decide +kernel
theorem dL_law_365 : decode cL_law 365 = .ok (.aload_n 2, 1) := by decide +kernel
theorem dL_law_366 : decode cL_law 366 = .ok (.aload_n 0, 1) := by decide +kernel
theorem dL_law_367 : decode cL_law 367 = .ok (.iload_n 3, 1) := by decide +kernel
theorem dL_law_368 : decode cL_law 368 = .ok (.iconst 1, 1) := by decide +kernel
theorem dL_law_369 : decode cL_law 369 = .ok (.iadd, 1) := by decide +kernel
theorem dL_law_370 : decode cL_law 370 = .ok (.iaload, 1) := by decide +kernel
theorem dL_law_371 : decode cL_law 371 = .ok (.aload_n 0, 1) := by decide +kernel
theorem dL_law_372 : decode cL_law 372 = .ok (.iload_n 3, 1) := by decide +kernel
theorem dL_law_373 : decode cL_law 373 = .ok (.iconst 2, 1) := by decide +kernel
theorem dL_law_374 : decode cL_law 374 = .ok (.iadd, 1) := by decide +kernel
theorem dL_law_375 : decode cL_law 375 = .ok (.iaload, 1) := by decide +kernel
theorem dL_law_376 : decode cL_law 376 = .ok (.invokevirtual 39, 3) := by decide +kernel
theorem dL_law_379 : decode cL_law 379 = .ok (.if_icmp .eq 1055, 3) := by decide +kernel
theorem dL_law_382 : decode cL_law 382 = .ok (.iconst 0, 1) := by decide +kernel
theorem dL_law_383 : decode cL_law 383 = .ok (.ireturn, 1) := by decide +kernel
theorem dL_law_384 : decode cL_law 384 = .ok (.aload_n 1, 1) := by decide +kernel
theorem dL_law_385 : decode cL_law 385 = .ok (.aload_n 0, 1) := by decide +kernel
theorem dL_law_386 : decode cL_law 386 = .ok (.iload_n 3, 1) := by decide +kernel
theorem dL_law_387 : decode cL_law 387 = .ok (.iconst 1, 1) := by decide +kernel
theorem dL_law_388 : decode cL_law 388 = .ok (.iadd, 1) := by decide +kernel
theorem dL_law_389 : decode cL_law 389 = .ok (.iaload, 1) := by decide +kernel
theorem dL_law_390 : decode cL_law 390 = .ok (.aload_n 0, 1) := by decide +kernel
theorem dL_law_391 : decode cL_law 391 = .ok (.iload_n 3, 1) := by decide +kernel
theorem dL_law_392 : decode cL_law 392 = .ok (.iconst 2, 1) := by decide +kernel
theorem dL_law_393 : decode cL_law 393 = .ok (.iadd, 1) := by decide +kernel
theorem dL_law_394 : decode cL_law 394 = .ok (.iaload, 1) := by decide +kernel
theorem dL_law_395 : decode cL_law 395 = .ok (.invokevirtual 40, 3) := by decide +kernel
theorem dL_law_398 : decode cL_law 398 = .ok (.aload_n 2, 1) := by decide +kernel
theorem dL_law_399 : decode cL_law 399 = .ok (.aload_n 0, 1) := by decide +kernel
theorem dL_law_400 : decode cL_law 400 = .ok (.iload_n 3, 1) := by decide +kernel
theorem dL_law_401 : decode cL_law 401 = .ok (.iconst 1, 1) := by decide +kernel
theorem dL_law_402 : decode cL_law 402 = .ok (.iadd, 1) := by decide +kernel
theorem dL_law_403 : decode cL_law 403 = .ok (.iaload, 1) := by decide +kernel
theorem dL_law_404 : decode cL_law 404 = .ok (.aload_n 0, 1) := by decide +kernel
theorem dL_law_405 : decode cL_law 405 = .ok (.iload_n 3, 1) := by decide +kernel
theorem dL_law_406 : decode cL_law 406 = .ok (.iconst 2, 1) := by decide +kernel
theorem dL_law_407 : decode cL_law 407 = .ok (.iadd, 1) := by decide +kernel
theorem dL_law_408 : decode cL_law 408 = .ok (.iaload, 1) := by decide +kernel
theorem dL_law_409 : decode cL_law 409 = .ok (.invokevirtual 43, 3) := by decide +kernel
theorem dL_law_412 : decode cL_law 412 = .ok (.if_icmp .eq 1022, 3) := by decide +kernel
theorem dL_law_415 : decode cL_law 415 = .ok (.iconst 0, 1) := by decide +kernel
theorem dL_law_416 : decode cL_law 416 = .ok (.ireturn, 1) := by decide +kernel
theorem dL_law_417 : decode cL_law 417 = .ok (.aload_n 1, 1) := by decide +kernel
theorem dL_law_418 : decode cL_law 418 = .ok (.aload_n 0, 1) := by decide +kernel
theorem dL_law_419 : decode cL_law 419 = .ok (.iload_n 3, 1) := by decide +kernel
theorem dL_law_420 : decode cL_law 420 = .ok (.iconst 1, 1) := by decide +kernel
theorem dL_law_421 : decode cL_law 421 = .ok (.iadd, 1) := by decide +kernel
theorem dL_law_422 : decode cL_law 422 = .ok (.iaload, 1) := by decide +kernel
theorem dL_law_423 : decode cL_law 423 = .ok (.aload_n 0, 1) := by decide +kernel
theorem dL_law_424 : decode cL_law 424 = .ok (.iload_n 3, 1) := by decide +kernel
theorem dL_law_425 : decode cL_law 425 = .ok (.iconst 2, 1) := by decide +kernel
theorem dL_law_426 : decode cL_law 426 = .ok (.iadd, 1) := by decide +kernel
theorem dL_law_427 : decode cL_law 427 = .ok (.iaload, 1) := by decide +kernel
theorem dL_law_428 : decode cL_law 428 = .ok (.invokevirtual 44, 3) := by decide +kernel
theorem dL_law_431 : decode cL_law 431 = .ok (.aload_n 2, 1) := by decide +kernel
theorem dL_law_432 : decode cL_law 432 = .ok (.aload_n 0, 1) := by decide +kernel
theorem dL_law_433 : decode cL_law 433 = .ok (.iload_n 3, 1) := by decide +kernel
theorem dL_law_434 : decode cL_law 434 = .ok (.iconst 1, 1) := by decide +kernel
theorem dL_law_435 : decode cL_law 435 = .ok (.iadd, 1) := by decide +kernel
theorem dL_law_436 : decode cL_law 436 = .ok (.iaload, 1) := by decide +kernel
theorem dL_law_437 : decode cL_law 437 = .ok (.aload_n 0, 1) := by decide +kernel
theorem dL_law_438 : decode cL_law 438 = .ok (.iload_n 3, 1) := by decide +kernel
theorem dL_law_439 : decode cL_law 439 = .ok (.iconst 2, 1) := by decide +kernel
theorem dL_law_440 : decode cL_law 440 = .ok (.iadd, 1) := by decide +kernel
theorem dL_law_441 : decode cL_law 441 = .ok (.iaload, 1) := by decide +kernel
theorem dL_law_442 : decode cL_law 442 = .ok (.invokevirtual 47, 3) := by decide +kernel
theorem dL_law_445 : decode cL_law 445 = .ok (.if_icmp .eq 989, 3) := by decide +kernel
theorem dL_law_448 : decode cL_law 448 = .ok (.iconst 0, 1) := by decide +kernel
theorem dL_law_449 : decode cL_law 449 = .ok (.ireturn, 1) := by decide +kernel
theorem dL_law_450 : decode cL_law 450 = .ok (.aload_n 1, 1) := by decide +kernel
theorem dL_law_451 : decode cL_law 451 = .ok (.aload_n 0, 1) := by decide +kernel
theorem dL_law_452 : decode cL_law 452 = .ok (.iload_n 3, 1) := by decide +kernel
theorem dL_law_453 : decode cL_law 453 = .ok (.iconst 1, 1) := by decide +kernel
theorem dL_law_454 : decode cL_law 454 = .ok (.iadd, 1) := by decide +kernel
theorem dL_law_455 : decode cL_law 455 = .ok (.iaload, 1) := by decide +kernel
theorem dL_law_456 : decode cL_law 456 = .ok (.aload_n 0, 1) := by decide +kernel
theorem dL_law_457 : decode cL_law 457 = .ok (.iload_n 3, 1) := by decide +kernel
theorem dL_law_458 : decode cL_law 458 = .ok (.iconst 2, 1) := by decide +kernel
theorem dL_law_459 : decode cL_law 459 = .ok (.iadd, 1) := by decide +kernel
theorem dL_law_460 : decode cL_law 460 = .ok (.iaload, 1) := by decide +kernel
theorem dL_law_461 : decode cL_law 461 = .ok (.invokevirtual 48, 3) := by decide +kernel
theorem dL_law_464 : decode cL_law 464 = .ok (.aload_n 2, 1) := by decide +kernel
theorem dL_law_465 : decode cL_law 465 = .ok (.aload_n 0, 1) := by decide +kernel
theorem dL_law_466 : decode cL_law 466 = .ok (.iload_n 3, 1) := by decide +kernel
theorem dL_law_467 : decode cL_law 467 = .ok (.iconst 1, 1) := by decide +kernel
theorem dL_law_468 : decode cL_law 468 = .ok (.iadd, 1) := by decide +kernel
theorem dL_law_469 : decode cL_law 469 = .ok (.iaload, 1) := by decide +kernel
theorem dL_law_470 : decode cL_law 470 = .ok (.aload_n 0, 1) := by decide +kernel
theorem dL_law_471 : decode cL_law 471 = .ok (.iload_n 3, 1) := by decide +kernel
theorem dL_law_472 : decode cL_law 472 = .ok (.iconst 2, 1) := by decide +kernel
theorem dL_law_473 : decode cL_law 473 = .ok (.iadd, 1) := by decide +kernel
theorem dL_law_474 : decode cL_law 474 = .ok (.iaload, 1) := by decide +kernel
theorem dL_law_475 : decode cL_law 475 = .ok (.invokevirtual 51, 3) := by decide +kernel
theorem dL_law_478 : decode cL_law 478 = .ok (.if_icmp .eq 956, 3) := by decide +kernel
theorem dL_law_481 : decode cL_law 481 = .ok (.iconst 0, 1) := by decide +kernel
theorem dL_law_482 : decode cL_law 482 = .ok (.ireturn, 1) := by decide +kernel
theorem dL_law_483 : decode cL_law 483 = .ok (.aload_n 1, 1) := by decide +kernel
theorem dL_law_484 : decode cL_law 484 = .ok (.aload_n 0, 1) := by decide +kernel
theorem dL_law_485 : decode cL_law 485 = .ok (.iload_n 3, 1) := by decide +kernel
theorem dL_law_486 : decode cL_law 486 = .ok (.iconst 1, 1) := by decide +kernel
theorem dL_law_487 : decode cL_law 487 = .ok (.iadd, 1) := by decide +kernel
theorem dL_law_488 : decode cL_law 488 = .ok (.iaload, 1) := by decide +kernel
theorem dL_law_489 : decode cL_law 489 = .ok (.invokevirtual 52, 3) := by decide +kernel
theorem dL_law_492 : decode cL_law 492 = .ok (.aload_n 2, 1) := by decide +kernel
theorem dL_law_493 : decode cL_law 493 = .ok (.aload_n 0, 1) := by decide +kernel
theorem dL_law_494 : decode cL_law 494 = .ok (.iload_n 3, 1) := by decide +kernel
theorem dL_law_495 : decode cL_law 495 = .ok (.iconst 1, 1) := by decide +kernel
theorem dL_law_496 : decode cL_law 496 = .ok (.iadd, 1) := by decide +kernel
theorem dL_law_497 : decode cL_law 497 = .ok (.iaload, 1) := by decide +kernel
theorem dL_law_498 : decode cL_law 498 = .ok (.invokevirtual 55, 3) := by decide +kernel
theorem dL_law_501 : decode cL_law 501 = .ok (.if_icmp .eq 933, 3) := by decide +kernel
theorem dL_law_504 : decode cL_law 504 = .ok (.iconst 0, 1) := by decide +kernel
theorem dL_law_505 : decode cL_law 505 = .ok (.ireturn, 1) := by decide +kernel
theorem dL_law_506 : decode cL_law 506 = .ok (.aload_n 1, 1) := by decide +kernel
theorem dL_law_507 : decode cL_law 507 = .ok (.aload_n 0, 1) := by decide +kernel
theorem dL_law_508 : decode cL_law 508 = .ok (.iload_n 3, 1) := by decide +kernel
theorem dL_law_509 : decode cL_law 509 = .ok (.iconst 1, 1) := by decide +kernel
theorem dL_law_510 : decode cL_law 510 = .ok (.iadd, 1) := by decide +kernel
theorem dL_law_511 : decode cL_law 511 = .ok (.iaload, 1) := by decide +kernel
theorem dL_law_512 : decode cL_law 512 = .ok (.invokevirtual 56, 3) := by decide +kernel
theorem dL_law_515 : decode cL_law 515 = .ok (.aload_n 2, 1) := by decide +kernel
theorem dL_law_516 : decode cL_law 516 = .ok (.aload_n 0, 1) := by decide +kernel
theorem dL_law_517 : decode cL_law 517 = .ok (.iload_n 3, 1) := by decide +kernel
theorem dL_law_518 : decode cL_law 518 = .ok (.iconst 1, 1) := by decide +kernel
theorem dL_law_519 : decode cL_law 519 = .ok (.iadd, 1) := by decide +kernel
theorem dL_law_520 : decode cL_law 520 = .ok (.iaload, 1) := by decide +kernel
theorem dL_law_521 : decode cL_law 521 = .ok (.invokevirtual 59, 3) := by decide +kernel
theorem dL_law_524 : decode cL_law 524 = .ok (.if_icmp .eq 910, 3) := by decide +kernel
theorem dL_law_527 : decode cL_law 527 = .ok (.iconst 0, 1) := by decide +kernel
theorem dL_law_528 : decode cL_law 528 = .ok (.ireturn, 1) := by decide +kernel
theorem dL_law_529 : decode cL_law 529 = .ok (.aload_n 1, 1) := by decide +kernel
theorem dL_law_530 : decode cL_law 530 = .ok (.aload_n 0, 1) := by decide +kernel
theorem dL_law_531 : decode cL_law 531 = .ok (.iload_n 3, 1) := by decide +kernel
theorem dL_law_532 : decode cL_law 532 = .ok (.iconst 1, 1) := by decide +kernel
theorem dL_law_533 : decode cL_law 533 = .ok (.iadd, 1) := by decide +kernel
theorem dL_law_534 : decode cL_law 534 = .ok (.iaload, 1) := by decide +kernel
theorem dL_law_535 : decode cL_law 535 = .ok (.invokevirtual 60, 3) := by decide +kernel
theorem dL_law_538 : decode cL_law 538 = .ok (.aload_n 2, 1) := by decide +kernel
theorem dL_law_539 : decode cL_law 539 = .ok (.aload_n 0, 1) := by decide +kernel
theorem dL_law_540 : decode cL_law 540 = .ok (.iload_n 3, 1) := by decide +kernel
theorem dL_law_541 : decode cL_law 541 = .ok (.iconst 1, 1) := by decide +kernel
theorem dL_law_542 : decode cL_law 542 = .ok (.iadd, 1) := by decide +kernel
theorem dL_law_543 : decode cL_law 543 = .ok (.iaload, 1) := by decide +kernel
theorem dL_law_544 : decode cL_law 544 = .ok (.invokevirtual 63, 3) := by decide +kernel
theorem dL_law_547 : decode cL_law 547 = .ok (.if_icmp .eq 887, 3) := by decide +kernel
theorem dL_law_550 : decode cL_law 550 = .ok (.iconst 0, 1) := by decide +kernel
theorem dL_law_551 : decode cL_law 551 = .ok (.ireturn, 1) := by decide +kernel
theorem dL_law_552 : decode cL_law 552 = .ok (.aload_n 1, 1) := by decide +kernel
theorem dL_law_553 : decode cL_law 553 = .ok (.aload_n 0, 1) := by decide +kernel
theorem dL_law_554 : decode cL_law 554 = .ok (.iload_n 3, 1) := by decide +kernel
theorem dL_law_555 : decode cL_law 555 = .ok (.iconst 1, 1) := by decide +kernel
theorem dL_law_556 : decode cL_law 556 = .ok (.iadd, 1) := by decide +kernel
theorem dL_law_557 : decode cL_law 557 = .ok (.iaload, 1) := by decide +kernel
theorem dL_law_558 : decode cL_law 558 = .ok (.invokevirtual 64, 3) := by decide +kernel
theorem dL_law_561 : decode cL_law 561 = .ok (.aload_n 2, 1) := by decide +kernel
theorem dL_law_562 : decode cL_law 562 = .ok (.aload_n 0, 1) := by decide +kernel
theorem dL_law_563 : decode cL_law 563 = .ok (.iload_n 3, 1) := by decide +kernel
theorem dL_law_564 : decode cL_law 564 = .ok (.iconst 1, 1) := by decide +kernel
theorem dL_law_565 : decode cL_law 565 = .ok (.iadd, 1) := by decide +kernel
theorem dL_law_566 : decode cL_law 566 = .ok (.iaload, 1) := by decide +kernel
theorem dL_law_567 : decode cL_law 567 = .ok (.invokevirtual 67, 3) := by decide +kernel
theorem dL_law_570 : decode cL_law 570 = .ok (.if_icmp .eq 864, 3) := by decide +kernel
theorem dL_law_573 : decode cL_law 573 = .ok (.iconst 0, 1) := by decide +kernel
theorem dL_law_574 : decode cL_law 574 = .ok (.ireturn, 1) := by decide +kernel
theorem dL_law_575 : decode cL_law 575 = .ok (.aload_n 1, 1) := by decide +kernel
theorem dL_law_576 : decode cL_law 576 = .ok (.invokevirtual 68, 3) := by decide +kernel
theorem dL_law_579 : decode cL_law 579 = .ok (.aload_n 2, 1) := by decide +kernel
theorem dL_law_580 : decode cL_law 580 = .ok (.invokevirtual 71, 3) := by decide +kernel
theorem dL_law_583 : decode cL_law 583 = .ok (.if_icmp .eq 851, 3) := by decide +kernel
theorem dL_law_586 : decode cL_law 586 = .ok (.iconst 0, 1) := by decide +kernel
theorem dL_law_587 : decode cL_law 587 = .ok (.ireturn, 1) := by decide +kernel
theorem dL_law_588 : decode cL_law 588 = .ok (.aload_n 1, 1) := by decide +kernel
theorem dL_law_589 : decode cL_law 589 = .ok (.aload_n 0, 1) := by decide +kernel
theorem dL_law_590 : decode cL_law 590 = .ok (.iload_n 3, 1) := by decide +kernel
theorem dL_law_591 : decode cL_law 591 = .ok (.iconst 1, 1) := by decide +kernel
theorem dL_law_592 : decode cL_law 592 = .ok (.iadd, 1) := by decide +kernel
theorem dL_law_593 : decode cL_law 593 = .ok (.iaload, 1) := by decide +kernel
theorem dL_law_594 : decode cL_law 594 = .ok (.aload_n 0, 1) := by decide +kernel
theorem dL_law_595 : decode cL_law 595 = .ok (.iload_n 3, 1) := by decide +kernel
theorem dL_law_596 : decode cL_law 596 = .ok (.iconst 2, 1) := by decide +kernel
theorem dL_law_597 : decode cL_law 597 = .ok (.iadd, 1) := by decide +kernel
theorem dL_law_598 : decode cL_law 598 = .ok (.iaload, 1) := by decide +kernel
theorem dL_law_599 : decode cL_law 599 = .ok (.invokevirtual 72, 3) := by decide +kernel
theorem dL_law_602 : decode cL_law 602 = .ok (.aload_n 2, 1) := by decide +kernel
theorem dL_law_603 : decode cL_law 603 = .ok (.aload_n 0, 1) := by decide +kernel
theorem dL_law_604 : decode cL_law 604 = .ok (.iload_n 3, 1) := by decide +kernel
theorem dL_law_605 : decode cL_law 605 = .ok (.iconst 1, 1) := by decide +kernel
theorem dL_law_606 : decode cL_law 606 = .ok (.iadd, 1) := by decide +kernel
theorem dL_law_607 : decode cL_law 607 = .ok (.iaload, 1) := by decide +kernel
theorem dL_law_608 : decode cL_law 608 = .ok (.aload_n 0, 1) := by decide +kernel
theorem dL_law_609 : decode cL_law 609 = .ok (.iload_n 3, 1) := by decide +kernel
theorem dL_law_610 : decode cL_law 610 = .ok (.iconst 2, 1) := by decide +kernel
theorem dL_law_611 : decode cL_law 611 = .ok (.iadd, 1) := by decide +kernel
theorem dL_law_612 : decode cL_law 612 = .ok (.iaload, 1) := by decide +kernel
theorem dL_law_613 : decode cL_law 613 = .ok (.invokevirtual 75, 3) := by decide +kernel
theorem dL_law_616 : decode cL_law 616 = .ok (.if_icmp .eq 818, 3) := by decide +kernel
theorem dL_law_619 : decode cL_law 619 = .ok (.iconst 0, 1) := by decide +kernel
theorem dL_law_620 : decode cL_law 620 = .ok (.ireturn, 1) := by decide +kernel
theorem dL_law_621 : decode cL_law 621 = .ok (.aload_n 1, 1) := by decide +kernel
theorem dL_law_622 : decode cL_law 622 = .ok (.aload_n 0, 1) := by decide +kernel
theorem dL_law_623 : decode cL_law 623 = .ok (.iload_n 3, 1) := by decide +kernel
theorem dL_law_624 : decode cL_law 624 = .ok (.iconst 1, 1) := by decide +kernel
theorem dL_law_625 : decode cL_law 625 = .ok (.iadd, 1) := by decide +kernel
theorem dL_law_626 : decode cL_law 626 = .ok (.iaload, 1) := by decide +kernel
theorem dL_law_627 : decode cL_law 627 = .ok (.aload_n 0, 1) := by decide +kernel
theorem dL_law_628 : decode cL_law 628 = .ok (.iload_n 3, 1) := by decide +kernel
theorem dL_law_629 : decode cL_law 629 = .ok (.iconst 2, 1) := by decide +kernel
theorem dL_law_630 : decode cL_law 630 = .ok (.iadd, 1) := by decide +kernel
theorem dL_law_631 : decode cL_law 631 = .ok (.iaload, 1) := by decide +kernel
theorem dL_law_632 : decode cL_law 632 = .ok (.invokevirtual 76, 3) := by decide +kernel
theorem dL_law_635 : decode cL_law 635 = .ok (.aload_n 2, 1) := by decide +kernel
theorem dL_law_636 : decode cL_law 636 = .ok (.aload_n 0, 1) := by decide +kernel
theorem dL_law_637 : decode cL_law 637 = .ok (.iload_n 3, 1) := by decide +kernel
theorem dL_law_638 : decode cL_law 638 = .ok (.iconst 1, 1) := by decide +kernel
theorem dL_law_639 : decode cL_law 639 = .ok (.iadd, 1) := by decide +kernel
theorem dL_law_640 : decode cL_law 640 = .ok (.iaload, 1) := by decide +kernel
theorem dL_law_641 : decode cL_law 641 = .ok (.aload_n 0, 1) := by decide +kernel
theorem dL_law_642 : decode cL_law 642 = .ok (.iload_n 3, 1) := by decide +kernel
theorem dL_law_643 : decode cL_law 643 = .ok (.iconst 2, 1) := by decide +kernel
theorem dL_law_644 : decode cL_law 644 = .ok (.iadd, 1) := by decide +kernel
theorem dL_law_645 : decode cL_law 645 = .ok (.iaload, 1) := by decide +kernel
theorem dL_law_646 : decode cL_law 646 = .ok (.invokevirtual 79, 3) := by decide +kernel
theorem dL_law_649 : decode cL_law 649 = .ok (.if_icmp .eq 785, 3) := by decide +kernel
theorem dL_law_652 : decode cL_law 652 = .ok (.iconst 0, 1) := by decide +kernel
theorem dL_law_653 : decode cL_law 653 = .ok (.ireturn, 1) := by decide +kernel
theorem dL_law_654 : decode cL_law 654 = .ok (.aload_n 1, 1) := by decide +kernel
theorem dL_law_655 : decode cL_law 655 = .ok (.aload_n 0, 1) := by decide +kernel
theorem dL_law_656 : decode cL_law 656 = .ok (.iload_n 3, 1) := by decide +kernel
theorem dL_law_657 : decode cL_law 657 = .ok (.iconst 1, 1) := by decide +kernel
theorem dL_law_658 : decode cL_law 658 = .ok (.iadd, 1) := by decide +kernel
theorem dL_law_659 : decode cL_law 659 = .ok (.iaload, 1) := by decide +kernel
theorem dL_law_660 : decode cL_law 660 = .ok (.aload_n 0, 1) := by decide +kernel
theorem dL_law_661 : decode cL_law 661 = .ok (.iload_n 3, 1) := by decide +kernel
theorem dL_law_662 : decode cL_law 662 = .ok (.iconst 2, 1) := by decide +kernel
theorem dL_law_663 : decode cL_law 663 = .ok (.iadd, 1) := by decide +kernel
theorem dL_law_664 : decode cL_law 664 = .ok (.iaload, 1) := by decide +kernel
theorem dL_law_665 : decode cL_law 665 = .ok (.invokevirtual 80, 3) := by decide +kernel
theorem dL_law_668 : decode cL_law 668 = .ok (.aload_n 2, 1) := by decide +kernel
theorem dL_law_669 : decode cL_law 669 = .ok (.aload_n 0, 1) := by decide +kernel
theorem dL_law_670 : decode cL_law 670 = .ok (.iload_n 3, 1) := by decide +kernel
theorem dL_law_671 : decode cL_law 671 = .ok (.iconst 1, 1) := by decide +kernel
theorem dL_law_672 : decode cL_law 672 = .ok (.iadd, 1) := by decide +kernel
theorem dL_law_673 : decode cL_law 673 = .ok (.iaload, 1) := by decide +kernel
theorem dL_law_674 : decode cL_law 674 = .ok (.aload_n 0, 1) := by decide +kernel
theorem dL_law_675 : decode cL_law 675 = .ok (.iload_n 3, 1) := by decide +kernel
theorem dL_law_676 : decode cL_law 676 = .ok (.iconst 2, 1) := by decide +kernel
theorem dL_law_677 : decode cL_law 677 = .ok (.iadd, 1) := by decide +kernel
theorem dL_law_678 : decode cL_law 678 = .ok (.iaload, 1) := by decide +kernel
theorem dL_law_679 : decode cL_law 679 = .ok (.invokevirtual 83, 3) := by decide +kernel
theorem dL_law_682 : decode cL_law 682 = .ok (.if_icmp .eq 752, 3) := by decide +kernel
theorem dL_law_685 : decode cL_law 685 = .ok (.iconst 0, 1) := by decide +kernel
theorem dL_law_686 : decode cL_law 686 = .ok (.ireturn, 1) := by decide +kernel
theorem dL_law_687 : decode cL_law 687 = .ok (.aload_n 1, 1) := by decide +kernel
theorem dL_law_688 : decode cL_law 688 = .ok (.aload_n 0, 1) := by decide +kernel
theorem dL_law_689 : decode cL_law 689 = .ok (.iload_n 3, 1) := by decide +kernel
theorem dL_law_690 : decode cL_law 690 = .ok (.iconst 1, 1) := by decide +kernel
theorem dL_law_691 : decode cL_law 691 = .ok (.iadd, 1) := by decide +kernel
theorem dL_law_692 : decode cL_law 692 = .ok (.iaload, 1) := by decide +kernel
theorem dL_law_693 : decode cL_law 693 = .ok (.invokevirtual 84, 3) := by decide +kernel
theorem dL_law_696 : decode cL_law 696 = .ok (.aload_n 2, 1) := by decide +kernel
theorem dL_law_697 : decode cL_law 697 = .ok (.aload_n 0, 1) := by decide +kernel
theorem dL_law_698 : decode cL_law 698 = .ok (.iload_n 3, 1) := by decide +kernel
theorem dL_law_699 : decode cL_law 699 = .ok (.iconst 1, 1) := by decide +kernel
theorem dL_law_700 : decode cL_law 700 = .ok (.iadd, 1) := by decide +kernel
theorem dL_law_701 : decode cL_law 701 = .ok (.iaload, 1) := by decide +kernel
theorem dL_law_702 : decode cL_law 702 = .ok (.invokevirtual 87, 3) := by decide +kernel
theorem dL_law_705 : decode cL_law 705 = .ok (.if_icmp .eq 729, 3) := by decide +kernel
theorem dL_law_708 : decode cL_law 708 = .ok (.iconst 0, 1) := by decide +kernel
theorem dL_law_709 : decode cL_law 709 = .ok (.ireturn, 1) := by decide +kernel
theorem dL_law_710 : decode cL_law 710 = .ok (.aload_n 1, 1) := by decide +kernel
theorem dL_law_711 : decode cL_law 711 = .ok (.aload_n 0, 1) := by decide +kernel
theorem dL_law_712 : decode cL_law 712 = .ok (.iload_n 3, 1) := by decide +kernel
theorem dL_law_713 : decode cL_law 713 = .ok (.iconst 1, 1) := by decide +kernel
theorem dL_law_714 : decode cL_law 714 = .ok (.iadd, 1) := by decide +kernel
theorem dL_law_715 : decode cL_law 715 = .ok (.iaload, 1) := by decide +kernel
theorem dL_law_716 : decode cL_law 716 = .ok (.aload_n 0, 1) := by decide +kernel
theorem dL_law_717 : decode cL_law 717 = .ok (.iload_n 3, 1) := by decide +kernel
theorem dL_law_718 : decode cL_law 718 = .ok (.iconst 2, 1) := by decide +kernel
theorem dL_law_719 : decode cL_law 719 = .ok (.iadd, 1) := by decide +kernel
theorem dL_law_720 : decode cL_law 720 = .ok (.iaload, 1) := by decide +kernel
theorem dL_law_721 : decode cL_law 721 = .ok (.aload_n 0, 1) := by decide +kernel
theorem dL_law_722 : decode cL_law 722 = .ok (.iload_n 3, 1) := by decide +kernel
theorem dL_law_723 : decode cL_law 723 = .ok (.iconst 3, 1) := by decide +kernel
theorem dL_law_724 : decode cL_law 724 = .ok (.iadd, 1) := by decide +kernel
theorem dL_law_725 : decode cL_law 725 = .ok (.iaload, 1) := by decide +kernel
theorem dL_law_726 : decode cL_law 726 = .ok (.invokevirtual 88, 3) := by decide +kernel
theorem dL_law_729 : decode cL_law 729 = .ok (.aload_n 2, 1) := by decide +kernel
theorem dL_law_730 : decode cL_law 730 = .ok (.aload_n 0, 1) := by decide +kernel
theorem dL_law_731 : decode cL_law 731 = .ok (.iload_n 3, 1) := by decide +kernel
theorem dL_law_732 : decode cL_law 732 = .ok (.iconst 1, 1) := by decide +kernel
theorem dL_law_733 : decode cL_law 733 = .ok (.iadd, 1) := by decide +kernel
theorem dL_law_734 : decode cL_law 734 = .ok (.iaload, 1) := by decide +kernel
theorem dL_law_735 : decode cL_law 735 = .ok (.aload_n 0, 1) := by decide +kernel
theorem dL_law_736 : decode cL_law 736 = .ok (.iload_n 3, 1) := by decide +kernel
theorem dL_law_737 : decode cL_law 737 = .ok (.iconst 2, 1) := by decide +kernel
theorem dL_law_738 : decode cL_law 738 = .ok (.iadd, 1) := by decide +kernel
theorem dL_law_739 : decode cL_law 739 = .ok (.iaload, 1) := by decide +kernel
theorem dL_law_740 : decode cL_law 740 = .ok (.aload_n 0, 1) := by decide +kernel
theorem dL_law_741 : decode cL_law 741 = .ok (.iload_n 3, 1) := by decide +kernel
theorem dL_law_742 : decode cL_law 742 = .ok (.iconst 3, 1) := by decide +kernel
theorem dL_law_743 : decode cL_law 743 = .ok (.iadd, 1) := by decide +kernel
theorem dL_law_744 : decode cL_law 744 = .ok (.iaload, 1) := by decide +kernel
theorem dL_law_745 : decode cL_law 745 = .ok (.invokevirtual 92, 3) := by decide +kernel
theorem dL_law_748 : decode cL_law 748 = .ok (.if_icmp .eq 686, 3) := by decide +kernel
theorem dL_law_751 : decode cL_law 751 = .ok (.iconst 0, 1) := by decide +kernel
theorem dL_law_752 : decode cL_law 752 = .ok (.ireturn, 1) := by decide +kernel
theorem dL_law_753 : decode cL_law 753 = .ok (.aload_n 1, 1) := by decide +kernel
theorem dL_law_754 : decode cL_law 754 = .ok (.aload_n 0, 1) := by decide +kernel
theorem dL_law_755 : decode cL_law 755 = .ok (.iload_n 3, 1) := by decide +kernel
theorem dL_law_756 : decode cL_law 756 = .ok (.iconst 1, 1) := by decide +kernel
theorem dL_law_757 : decode cL_law 757 = .ok (.iadd, 1) := by decide +kernel
theorem dL_law_758 : decode cL_law 758 = .ok (.iaload, 1) := by decide +kernel
theorem dL_law_759 : decode cL_law 759 = .ok (.aload_n 0, 1) := by decide +kernel
theorem dL_law_760 : decode cL_law 760 = .ok (.iload_n 3, 1) := by decide +kernel
theorem dL_law_761 : decode cL_law 761 = .ok (.iconst 2, 1) := by decide +kernel
theorem dL_law_762 : decode cL_law 762 = .ok (.iadd, 1) := by decide +kernel
theorem dL_law_763 : decode cL_law 763 = .ok (.iaload, 1) := by decide +kernel
theorem dL_law_764 : decode cL_law 764 = .ok (.aload_n 0, 1) := by decide +kernel
theorem dL_law_765 : decode cL_law 765 = .ok (.iload_n 3, 1) := by decide +kernel
theorem dL_law_766 : decode cL_law 766 = .ok (.iconst 3, 1) := by decide +kernel
theorem dL_law_767 : decode cL_law 767 = .ok (.iadd, 1) := by decide +kernel
theorem dL_law_768 : decode cL_law 768 = .ok (.iaload, 1) := by decide +kernel
theorem dL_law_769 : decode cL_law 769 = .ok (.invokevirtual 93, 3) := by decide +kernel
theorem dL_law_772 : decode cL_law 772 = .ok (.aload_n 2, 1) := by decide +kernel
theorem dL_law_773 : decode cL_law 773 = .ok (.aload_n 0, 1) := by decide +kernel
theorem dL_law_774 : decode cL_law 774 = .ok (.iload_n 3, 1) := by decide +kernel
theorem dL_law_775 : decode cL_law 775 = .ok (.iconst 1, 1) := by decide +kernel
theorem dL_law_776 : decode cL_law 776 = .ok (.iadd, 1) := by decide +kernel
theorem dL_law_777 : decode cL_law 777 = .ok (.iaload, 1) := by decide +kernel
theorem dL_law_778 : decode cL_law 778 = .ok (.aload_n 0, 1) := by decide +kernel
theorem dL_law_779 : decode cL_law 779 = .ok (.iload_n 3, 1) := by decide +kernel
theorem dL_law_780 : decode cL_law 780 = .ok (.iconst 2, 1) := by decide +kernel
theorem dL_law_781 : decode cL_law 781 = .ok (.iadd, 1) := by decide +kernel
theorem dL_law_782 : decode cL_law 782 = .ok (.iaload, 1) := by decide +kernel
theorem dL_law_783 : decode cL_law 783 = .ok (.aload_n 0, 1) := by decide +kernel
theorem dL_law_784 : decode cL_law 784 = .ok (.iload_n 3, 1) := by decide +kernel
theorem dL_law_785 : decode cL_law 785 = .ok (.iconst 3, 1) := by decide +kernel
theorem dL_law_786 : decode cL_law 786 = .ok (.iadd, 1) := by decide +kernel
theorem dL_law_787 : decode cL_law 787 = .ok (.iaload, 1) := by decide +kernel
theorem dL_law_788 : decode cL_law 788 = .ok (.invokevirtual 96, 3) := by decide +kernel
theorem dL_law_791 : decode cL_law 791 = .ok (.if_icmp .eq 643, 3) := by decide +kernel
theorem dL_law_794 : decode cL_law 794 = .ok (.iconst 0, 1) := by decide +kernel
theorem dL_law_795 : decode cL_law 795 = .ok (.ireturn, 1) := by decide +kernel
theorem dL_law_796 : decode cL_law 796 = .ok (.aload_n 1, 1) := by decide +kernel
theorem dL_law_797 : decode cL_law 797 = .ok (.aload_n 0, 1) := by decide +kernel
theorem dL_law_798 : decode cL_law 798 = .ok (.iload_n 3, 1) := by decide +kernel
theorem dL_law_799 : decode cL_law 799 = .ok (.iconst 1, 1) := by decide +kernel
theorem dL_law_800 : decode cL_law 800 = .ok (.iadd, 1) := by decide +kernel
theorem dL_law_801 : decode cL_law 801 = .ok (.iaload, 1) := by decide +kernel
theorem dL_law_802 : decode cL_law 802 = .ok (.aload_n 0, 1) := by decide +kernel
theorem dL_law_803 : decode cL_law 803 = .ok (.iload_n 3, 1) := by decide +kernel
theorem dL_law_804 : decode cL_law 804 = .ok (.iconst 2, 1) := by decide +kernel
theorem dL_law_805 : decode cL_law 805 = .ok (.iadd, 1) := by decide +kernel
theorem dL_law_806 : decode cL_law 806 = .ok (.iaload, 1) := by decide +kernel
theorem dL_law_807 : decode cL_law 807 = .ok (.invokevirtual 97, 3) := by decide +kernel
theorem dL_law_810 : decode cL_law 810 = .ok (.aload_n 2, 1) := by decide +kernel
theorem dL_law_811 : decode cL_law 811 = .ok (.aload_n 0, 1) := by decide +kernel
theorem dL_law_812 : decode cL_law 812 = .ok (.iload_n 3, 1) := by decide +kernel
theorem dL_law_813 : decode cL_law 813 = .ok (.iconst 1, 1) := by decide +kernel
theorem dL_law_814 : decode cL_law 814 = .ok (.iadd, 1) := by decide +kernel
theorem dL_law_815 : decode cL_law 815 = .ok (.iaload, 1) := by decide +kernel
theorem dL_law_816 : decode cL_law 816 = .ok (.aload_n 0, 1) := by decide +kernel
theorem dL_law_817 : decode cL_law 817 = .ok (.iload_n 3, 1) := by decide +kernel
theorem dL_law_818 : decode cL_law 818 = .ok (.iconst 2, 1) := by decide +kernel
theorem dL_law_819 : decode cL_law 819 = .ok (.iadd, 1) := by decide +kernel
theorem dL_law_820 : decode cL_law 820 = .ok (.iaload, 1) := by decide +kernel
theorem dL_law_821 : decode cL_law 821 = .ok (.invokevirtual 100, 3) := by decide +kernel
theorem dL_law_824 : decode cL_law 824 = .ok (.if_icmp .eq 610, 3) := by decide +kernel
theorem dL_law_827 : decode cL_law 827 = .ok (.iconst 0, 1) := by decide +kernel
theorem dL_law_828 : decode cL_law 828 = .ok (.ireturn, 1) := by decide +kernel
theorem dL_law_829 : decode cL_law 829 = .ok (.aload_n 1, 1) := by decide +kernel
theorem dL_law_830 : decode cL_law 830 = .ok (.aload_n 0, 1) := by decide +kernel
theorem dL_law_831 : decode cL_law 831 = .ok (.iload_n 3, 1) := by decide +kernel
theorem dL_law_832 : decode cL_law 832 = .ok (.iconst 1, 1) := by decide +kernel
theorem dL_law_833 : decode cL_law 833 = .ok (.iadd, 1) := by decide +kernel
theorem dL_law_834 : decode cL_law 834 = .ok (.iaload, 1) := by decide +kernel
theorem dL_law_835 : decode cL_law 835 = .ok (.aload_n 0, 1) := by decide +kernel
theorem dL_law_836 : decode cL_law 836 = .ok (.iload_n 3, 1) := by decide +kernel
theorem dL_law_837 : decode cL_law 837 = .ok (.iconst 2, 1) := by decide +kernel
theorem dL_law_838 : decode cL_law 838 = .ok (.iadd, 1) := by decide +kernel
theorem dL_law_839 : decode cL_law 839 = .ok (.iaload, 1) := by decide +kernel
theorem dL_law_840 : decode cL_law 840 = .ok (.aload_n 0, 1) := by decide +kernel
theorem dL_law_841 : decode cL_law 841 = .ok (.iload_n 3, 1) := by decide +kernel
theorem dL_law_842 : decode cL_law 842 = .ok (.iconst 3, 1) := by decide +kernel
theorem dL_law_843 : decode cL_law 843 = .ok (.iadd, 1) := by decide +kernel
theorem dL_law_844 : decode cL_law 844 = .ok (.iaload, 1) := by decide +kernel
theorem dL_law_845 : decode cL_law 845 = .ok (.aload_n 0, 1) := by decide +kernel
theorem dL_law_846 : decode cL_law 846 = .ok (.iload_n 3, 1) := by decide +kernel
theorem dL_law_847 : decode cL_law 847 = .ok (.iconst 4, 1) := by decide +kernel
theorem dL_law_848 : decode cL_law 848 = .ok (.iadd, 1) := by decide +kernel
theorem dL_law_849 : decode cL_law 849 = .ok (.iaload, 1) := by decide +kernel
theorem dL_law_850 : decode cL_law 850 = .ok (.invokevirtual 101, 3) := by decide +kernel
theorem dL_law_853 : decode cL_law 853 = .ok (.aload_n 2, 1) := by decide +kernel
theorem dL_law_854 : decode cL_law 854 = .ok (.aload_n 0, 1) := by decide +kernel
theorem dL_law_855 : decode cL_law 855 = .ok (.iload_n 3, 1) := by decide +kernel
theorem dL_law_856 : decode cL_law 856 = .ok (.iconst 1, 1) := by decide +kernel
theorem dL_law_857 : decode cL_law 857 = .ok (.iadd, 1) := by decide +kernel
theorem dL_law_858 : decode cL_law 858 = .ok (.iaload, 1) := by decide +kernel
theorem dL_law_859 : decode cL_law 859 = .ok (.aload_n 0, 1) := by decide +kernel
theorem dL_law_860 : decode cL_law 860 = .ok (.iload_n 3, 1) := by decide +kernel
theorem dL_law_861 : decode cL_law 861 = .ok (.iconst 2, 1) := by decide +kernel
theorem dL_law_862 : decode cL_law 862 = .ok (.iadd, 1) := by decide +kernel
theorem dL_law_863 : decode cL_law 863 = .ok (.iaload, 1) := by decide +kernel
theorem dL_law_864 : decode cL_law 864 = .ok (.aload_n 0, 1) := by decide +kernel
theorem dL_law_865 : decode cL_law 865 = .ok (.iload_n 3, 1) := by decide +kernel
theorem dL_law_866 : decode cL_law 866 = .ok (.iconst 3, 1) := by decide +kernel
theorem dL_law_867 : decode cL_law 867 = .ok (.iadd, 1) := by decide +kernel
theorem dL_law_868 : decode cL_law 868 = .ok (.iaload, 1) := by decide +kernel
theorem dL_law_869 : decode cL_law 869 = .ok (.aload_n 0, 1) := by decide +kernel
theorem dL_law_870 : decode cL_law 870 = .ok (.iload_n 3, 1) := by decide +kernel
theorem dL_law_871 : decode cL_law 871 = .ok (.iconst 4, 1) := by decide +kernel
theorem dL_law_872 : decode cL_law 872 = .ok (.iadd, 1) := by decide +kernel
theorem dL_law_873 : decode cL_law 873 = .ok (.iaload, 1) := by decide +kernel
theorem dL_law_874 : decode cL_law 874 = .ok (.invokevirtual 105, 3) := by decide +kernel
theorem dL_law_877 : decode cL_law 877 = .ok (.if_icmp .eq 557, 3) := by decide +kernel
theorem dL_law_880 : decode cL_law 880 = .ok (.iconst 0, 1) := by decide +kernel
theorem dL_law_881 : decode cL_law 881 = .ok (.ireturn, 1) := by decide +kernel
theorem dL_law_882 : decode cL_law 882 = .ok (.aload_n 1, 1) := by decide +kernel
theorem dL_law_883 : decode cL_law 883 = .ok (.aload_n 0, 1) := by decide +kernel
theorem dL_law_884 : decode cL_law 884 = .ok (.iload_n 3, 1) := by decide +kernel
theorem dL_law_885 : decode cL_law 885 = .ok (.iconst 1, 1) := by decide +kernel
theorem dL_law_886 : decode cL_law 886 = .ok (.iadd, 1) := by decide +kernel
theorem dL_law_887 : decode cL_law 887 = .ok (.iaload, 1) := by decide +kernel
theorem dL_law_888 : decode cL_law 888 = .ok (.invokevirtual 106, 3) := by decide +kernel
theorem dL_law_891 : decode cL_law 891 = .ok (.aload_n 2, 1) := by decide +kernel
theorem dL_law_892 : decode cL_law 892 = .ok (.aload_n 0, 1) := by decide +kernel
theorem dL_law_893 : decode cL_law 893 = .ok (.iload_n 3, 1) := by decide +kernel
theorem dL_law_894 : decode cL_law 894 = .ok (.iconst 1, 1) := by decide +kernel
theorem dL_law_895 : decode cL_law 895 = .ok (.iadd, 1) := by decide +kernel
theorem dL_law_896 : decode cL_law 896 = .ok (.iaload, 1) := by decide +kernel
theorem dL_law_897 : decode cL_law 897 = .ok (.invokevirtual 109, 3) := by decide +kernel
theorem dL_law_900 : decode cL_law 900 = .ok (.if_icmp .eq 534, 3) := by decide +kernel
theorem dL_law_903 : decode cL_law 903 = .ok (.iconst 0, 1) := by decide +kernel
theorem dL_law_904 : decode cL_law 904 = .ok (.ireturn, 1) := by decide +kernel
theorem dL_law_905 : decode cL_law 905 = .ok (.aload_n 1, 1) := by decide +kernel
theorem dL_law_906 : decode cL_law 906 = .ok (.aload_n 0, 1) := by decide +kernel
theorem dL_law_907 : decode cL_law 907 = .ok (.iload_n 3, 1) := by decide +kernel
theorem dL_law_908 : decode cL_law 908 = .ok (.iconst 1, 1) := by decide +kernel
theorem dL_law_909 : decode cL_law 909 = .ok (.iadd, 1) := by decide +kernel
theorem dL_law_910 : decode cL_law 910 = .ok (.iaload, 1) := by decide +kernel
theorem dL_law_911 : decode cL_law 911 = .ok (.invokevirtual 110, 3) := by decide +kernel
theorem dL_law_914 : decode cL_law 914 = .ok (.aload_n 2, 1) := by decide +kernel
theorem dL_law_915 : decode cL_law 915 = .ok (.aload_n 0, 1) := by decide +kernel
theorem dL_law_916 : decode cL_law 916 = .ok (.iload_n 3, 1) := by decide +kernel
theorem dL_law_917 : decode cL_law 917 = .ok (.iconst 1, 1) := by decide +kernel
theorem dL_law_918 : decode cL_law 918 = .ok (.iadd, 1) := by decide +kernel
theorem dL_law_919 : decode cL_law 919 = .ok (.iaload, 1) := by decide +kernel
theorem dL_law_920 : decode cL_law 920 = .ok (.invokevirtual 113, 3) := by decide +kernel
theorem dL_law_923 : decode cL_law 923 = .ok (.if_icmp .eq 511, 3) := by decide +kernel
theorem dL_law_926 : decode cL_law 926 = .ok (.iconst 0, 1) := by decide +kernel
theorem dL_law_927 : decode cL_law 927 = .ok (.ireturn, 1) := by decide +kernel
theorem dL_law_928 : decode cL_law 928 = .ok (.aload_n 1, 1) := by decide +kernel
theorem dL_law_929 : decode cL_law 929 = .ok (.aload_n 0, 1) := by decide +kernel
theorem dL_law_930 : decode cL_law 930 = .ok (.iload_n 3, 1) := by decide +kernel
theorem dL_law_931 : decode cL_law 931 = .ok (.iconst 1, 1) := by decide +kernel
theorem dL_law_932 : decode cL_law 932 = .ok (.iadd, 1) := by decide +kernel
theorem dL_law_933 : decode cL_law 933 = .ok (.iaload, 1) := by decide +kernel
theorem dL_law_934 : decode cL_law 934 = .ok (.aload_n 0, 1) := by decide +kernel
theorem dL_law_935 : decode cL_law 935 = .ok (.iload_n 3, 1) := by decide +kernel
theorem dL_law_936 : decode cL_law 936 = .ok (.iconst 2, 1) := by decide +kernel
theorem dL_law_937 : decode cL_law 937 = .ok (.iadd, 1) := by decide +kernel
theorem dL_law_938 : decode cL_law 938 = .ok (.iaload, 1) := by decide +kernel
theorem dL_law_939 : decode cL_law 939 = .ok (.invokevirtual 114, 3) := by decide +kernel
theorem dL_law_942 : decode cL_law 942 = .ok (.aload_n 2, 1) := by decide +kernel
theorem dL_law_943 : decode cL_law 943 = .ok (.aload_n 0, 1) := by decide +kernel
theorem dL_law_944 : decode cL_law 944 = .ok (.iload_n 3, 1) := by decide +kernel
theorem dL_law_945 : decode cL_law 945 = .ok (.iconst 1, 1) := by decide +kernel
theorem dL_law_946 : decode cL_law 946 = .ok (.iadd, 1) := by decide +kernel
theorem dL_law_947 : decode cL_law 947 = .ok (.iaload, 1) := by decide +kernel
theorem dL_law_948 : decode cL_law 948 = .ok (.aload_n 0, 1) := by decide +kernel
theorem dL_law_949 : decode cL_law 949 = .ok (.iload_n 3, 1) := by decide +kernel
theorem dL_law_950 : decode cL_law 950 = .ok (.iconst 2, 1) := by decide +kernel
theorem dL_law_951 : decode cL_law 951 = .ok (.iadd, 1) := by decide +kernel
theorem dL_law_952 : decode cL_law 952 = .ok (.iaload, 1) := by decide +kernel
theorem dL_law_953 : decode cL_law 953 = .ok (.invokevirtual 117, 3) := by decide +kernel
theorem dL_law_956 : decode cL_law 956 = .ok (.if_icmp .eq 478, 3) := by decide +kernel
theorem dL_law_959 : decode cL_law 959 = .ok (.iconst 0, 1) := by decide +kernel
theorem dL_law_960 : decode cL_law 960 = .ok (.ireturn, 1) := by decide +kernel
theorem dL_law_961 : decode cL_law 961 = .ok (.aload_n 1, 1) := by decide +kernel
theorem dL_law_962 : decode cL_law 962 = .ok (.aload_n 0, 1) := by decide +kernel
theorem dL_law_963 : decode cL_law 963 = .ok (.iload_n 3, 1) := by decide +kernel
theorem dL_law_964 : decode cL_law 964 = .ok (.iconst 1, 1) := by decide +kernel
theorem dL_law_965 : decode cL_law 965 = .ok (.iadd, 1) := by decide +kernel
theorem dL_law_966 : decode cL_law 966 = .ok (.iaload, 1) := by decide +kernel
theorem dL_law_967 : decode cL_law 967 = .ok (.aload_n 0, 1) := by decide +kernel
theorem dL_law_968 : decode cL_law 968 = .ok (.iload_n 3, 1) := by decide +kernel
theorem dL_law_969 : decode cL_law 969 = .ok (.iconst 2, 1) := by decide +kernel
theorem dL_law_970 : decode cL_law 970 = .ok (.iadd, 1) := by decide +kernel
theorem dL_law_971 : decode cL_law 971 = .ok (.iaload, 1) := by decide +kernel
theorem dL_law_972 : decode cL_law 972 = .ok (.invokevirtual 118, 3) := by decide +kernel
theorem dL_law_975 : decode cL_law 975 = .ok (.aload_n 2, 1) := by decide +kernel
theorem dL_law_976 : decode cL_law 976 = .ok (.aload_n 0, 1) := by decide +kernel
theorem dL_law_977 : decode cL_law 977 = .ok (.iload_n 3, 1) := by decide +kernel
theorem dL_law_978 : decode cL_law 978 = .ok (.iconst 1, 1) := by decide +kernel
theorem dL_law_979 : decode cL_law 979 = .ok (.iadd, 1) := by decide +kernel
theorem dL_law_980 : decode cL_law 980 = .ok (.iaload, 1) := by decide +kernel
theorem dL_law_981 : decode cL_law 981 = .ok (.aload_n 0, 1) := by decide +kernel
theorem dL_law_982 : decode cL_law 982 = .ok (.iload_n 3, 1) := by decide +kernel
theorem dL_law_983 : decode cL_law 983 = .ok (.iconst 2, 1) := by decide +kernel
theorem dL_law_984 : decode cL_law 984 = .ok (.iadd, 1) := by decide +kernel
theorem dL_law_985 : decode cL_law 985 = .ok (.iaload, 1) := by decide +kernel
theorem dL_law_986 : decode cL_law 986 = .ok (.invokevirtual 121, 3) := by decide +kernel
theorem dL_law_989 : decode cL_law 989 = .ok (.if_icmp .eq 445, 3) := by decide +kernel
theorem dL_law_992 : decode cL_law 992 = .ok (.iconst 0, 1) := by decide +kernel
theorem dL_law_993 : decode cL_law 993 = .ok (.ireturn, 1) := by decide +kernel
theorem dL_law_994 : decode cL_law 994 = .ok (.aload_n 1, 1) := by decide +kernel
theorem dL_law_995 : decode cL_law 995 = .ok (.aload_n 0, 1) := by decide +kernel
theorem dL_law_996 : decode cL_law 996 = .ok (.iload_n 3, 1) := by decide +kernel
theorem dL_law_997 : decode cL_law 997 = .ok (.iconst 1, 1) := by decide +kernel
theorem dL_law_998 : decode cL_law 998 = .ok (.iadd, 1) := by decide +kernel
theorem dL_law_999 : decode cL_law 999 = .ok (.iaload, 1) := by decide +kernel
theorem dL_law_1000 : decode cL_law 1000 = .ok (.aload_n 0, 1) := by decide +kernel
theorem dL_law_1001 : decode cL_law 1001 = .ok (.iload_n 3, 1) := by decide +kernel
theorem dL_law_1002 : decode cL_law 1002 = .ok (.iconst 2, 1) := by decide +kernel
theorem dL_law_1003 : decode cL_law 1003 = .ok (.iadd, 1) := by decide +kernel
theorem dL_law_1004 : decode cL_law 1004 = .ok (.iaload, 1) := by decide +kernel
theorem dL_law_1005 : decode cL_law 1005 = .ok (.aload_n 0, 1) := by decide +kernel
theorem dL_law_1006 : decode cL_law 1006 = .ok (.iload_n 3, 1) := by decide +kernel
theorem dL_law_1007 : decode cL_law 1007 = .ok (.iconst 3, 1) := by decide +kernel
theorem dL_law_1008 : decode cL_law 1008 = .ok (.iadd, 1) := by decide +kernel
theorem dL_law_1009 : decode cL_law 1009 = .ok (.iaload, 1) := by decide +kernel
theorem dL_law_1010 : decode cL_law 1010 = .ok (.invokevirtual 122, 3) := by decide +kernel
theorem dL_law_1013 : decode cL_law 1013 = .ok (.aload_n 2, 1) := by decide +kernel
theorem dL_law_1014 : decode cL_law 1014 = .ok (.aload_n 0, 1) := by decide +kernel
theorem dL_law_1015 : decode cL_law 1015 = .ok (.iload_n 3, 1) := by decide +kernel
theorem dL_law_1016 : decode cL_law 1016 = .ok (.iconst 1, 1) := by decide +kernel
theorem dL_law_1017 : decode cL_law 1017 = .ok (.iadd, 1) := by decide +kernel
theorem dL_law_1018 : decode cL_law 1018 = .ok (.iaload, 1) := by decide +kernel
theorem dL_law_1019 : decode cL_law 1019 = .ok (.aload_n 0, 1) := by decide +kernel
theorem dL_law_1020 : decode cL_law 1020 = .ok (.iload_n 3, 1) := by decide +kernel
theorem dL_law_1021 : decode cL_law 1021 = .ok (.iconst 2, 1) := by decide +kernel
theorem dL_law_1022 : decode cL_law 1022 = .ok (.iadd, 1) := by decide +kernel
theorem dL_law_1023 : decode cL_law 1023 = .ok (.iaload, 1) := by decide +kernel
theorem dL_law_1024 : decode cL_law 1024 = .ok (.aload_n 0, 1) := by decide +kernel
theorem dL_law_1025 : decode cL_law 1025 = .ok (.iload_n 3, 1) := by decide +kernel
theorem dL_law_1026 : decode cL_law 1026 = .ok (.iconst 3, 1) := by decide +kernel
theorem dL_law_1027 : decode cL_law 1027 = .ok (.iadd, 1) := by decide +kernel
theorem dL_law_1028 : decode cL_law 1028 = .ok (.iaload, 1) := by decide +kernel
theorem dL_law_1029 : decode cL_law 1029 = .ok (.invokevirtual 125, 3) := by decide +kernel
theorem dL_law_1032 : decode cL_law 1032 = .ok (.if_icmp .eq 402, 3) := by decide +kernel
theorem dL_law_1035 : decode cL_law 1035 = .ok (.iconst 0, 1) := by decide +kernel
theorem dL_law_1036 : decode cL_law 1036 = .ok (.ireturn, 1) := by decide +kernel
theorem dL_law_1037 : decode cL_law 1037 = .ok (.aload_n 1, 1) := by decide +kernel
theorem dL_law_1038 : decode cL_law 1038 = .ok (.aload_n 0, 1) := by decide +kernel
theorem dL_law_1039 : decode cL_law 1039 = .ok (.iload_n 3, 1) := by decide +kernel
theorem dL_law_1040 : decode cL_law 1040 = .ok (.iconst 1, 1) := by decide +kernel
theorem dL_law_1041 : decode cL_law 1041 = .ok (.iadd, 1) := by decide +kernel
theorem dL_law_1042 : decode cL_law 1042 = .ok (.iaload, 1) := by decide +kernel
theorem dL_law_1043 : decode cL_law 1043 = .ok (.aload_n 0, 1) := by decide +kernel
theorem dL_law_1044 : decode cL_law 1044 = .ok (.iload_n 3, 1) := by decide +kernel
theorem dL_law_1045 : decode cL_law 1045 = .ok (.iconst 2, 1) := by decide +kernel
theorem dL_law_1046 : decode cL_law 1046 = .ok (.iadd, 1) := by decide +kernel
theorem dL_law_1047 : decode cL_law 1047 = .ok (.iaload, 1) := by decide +kernel
theorem dL_law_1048 : decode cL_law 1048 = .ok (.aload_n 0, 1) := by decide +kernel
theorem dL_law_1049 : decode cL_law 1049 = .ok (.iload_n 3, 1) := by decide +kernel
theorem dL_law_1050 : decode cL_law 1050 = .ok (.iconst 3, 1) := by decide +kernel
theorem dL_law_1051 : decode cL_law 1051 = .ok (.iadd, 1) := by decide +kernel
theorem dL_law_1052 : decode cL_law 1052 = .ok (.iaload, 1) := by decide +kernel
theorem dL_law_1053 : decode cL_law 1053 = .ok (.aload_n 0, 1) := by decide +kernel
theorem dL_law_1054 : decode cL_law 1054 = .ok (.iload_n 3, 1) := by decide +kernel
theorem dL_law_1055 : decode cL_law 1055 = .ok (.iconst 4, 1) := by decide +kernel
theorem dL_law_1056 : decode cL_law 1056 = .ok (.iadd, 1) := by decide +kernel
theorem dL_law_1057 : decode cL_law 1057 = .ok (.iaload, 1) := by decide +kernel
theorem dL_law_1058 : decode cL_law 1058 = .ok (.aload_n 0, 1) := by decide +kernel
theorem dL_law_1059 : decode cL_law 1059 = .ok (.iload_n 3, 1) := by decide +kernel
theorem dL_law_1060 : decode cL_law 1060 = .ok (.iconst 5, 1) := by decide +kernel
theorem dL_law_1061 : decode cL_law 1061 = .ok (.iadd, 1) := by decide +kernel
theorem dL_law_1062 : decode cL_law 1062 = .ok (.iaload, 1) := by decide +kernel
theorem dL_law_1063 : decode cL_law 1063 = .ok (.invokevirtual 126, 3) := by decide +kernel
theorem dL_law_1066 : decode cL_law 1066 = .ok (.aload_n 2, 1) := by decide +kernel
theorem dL_law_1067 : decode cL_law 1067 = .ok (.aload_n 0, 1) := by decide +kernel
theorem dL_law_1068 : decode cL_law 1068 = .ok (.iload_n 3, 1) := by decide +kernel
theorem dL_law_1069 : decode cL_law 1069 = .ok (.iconst 1, 1) := by decide +kernel
theorem dL_law_1070 : decode cL_law 1070 = .ok (.iadd, 1) := by decide +kernel
theorem dL_law_1071 : decode cL_law 1071 = .ok (.iaload, 1) := by decide +kernel
theorem dL_law_1072 : decode cL_law 1072 = .ok (.aload_n 0, 1) := by decide +kernel
theorem dL_law_1073 : decode cL_law 1073 = .ok (.iload_n 3, 1) := by decide +kernel
theorem dL_law_1074 : decode cL_law 1074 = .ok (.iconst 2, 1) := by decide +kernel
theorem dL_law_1075 : decode cL_law 1075 = .ok (.iadd, 1) := by decide +kernel
theorem dL_law_1076 : decode cL_law 1076 = .ok (.iaload, 1) := by decide +kernel
theorem dL_law_1077 : decode cL_law 1077 = .ok (.aload_n 0, 1) := by decide +kernel
theorem dL_law_1078 : decode cL_law 1078 = .ok (.iload_n 3, 1) := by decide +kernel
theorem dL_law_1079 : decode cL_law 1079 = .ok (.iconst 3, 1) := by decide +kernel
theorem dL_law_1080 : decode cL_law 1080 = .ok (.iadd, 1) := by decide +kernel
theorem dL_law_1081 : decode cL_law 1081 = .ok (.iaload, 1) := by decide +kernel
theorem dL_law_1082 : decode cL_law 1082 = .ok (.aload_n 0, 1) := by decide +kernel
theorem dL_law_1083 : decode cL_law 1083 = .ok (.iload_n 3, 1) := by decide +kernel
theorem dL_law_1084 : decode cL_law 1084 = .ok (.iconst 4, 1) := by decide +kernel
theorem dL_law_1085 : decode cL_law 1085 = .ok (.iadd, 1) := by decide +kernel
theorem dL_law_1086 : decode cL_law 1086 = .ok (.iaload, 1) := by decide +kernel
theorem dL_law_1087 : decode cL_law 1087 = .ok (.aload_n 0, 1) := by decide +kernel
theorem dL_law_1088 : decode cL_law 1088 = .ok (.iload_n 3, 1) := by decide +kernel
theorem dL_law_1089 : decode cL_law 1089 = .ok (.iconst 5, 1) := by decide +kernel
theorem dL_law_1090 : decode cL_law 1090 = .ok (.iadd, 1) := by decide +kernel
theorem dL_law_1091 : decode cL_law 1091 = .ok (.iaload, 1) := by decide +kernel
theorem dL_law_1092 : decode cL_law 1092 = .ok (.invokevirtual 130, 3) := by decide +kernel
theorem dL_law_1095 : decode cL_law 1095 = .ok (.lcmp, 1) := by decide +kernel
theorem dL_law_1096 : decode cL_law 1096 = .ok (.ifCond .eq 338, 3) := by decide +kernel
theorem dL_law_1099 : decode cL_law 1099 = .ok (.iconst 0, 1) := by decide +kernel
theorem dL_law_1100 : decode cL_law 1100 = .ok (.ireturn, 1) := by decide +kernel
theorem dL_law_1101 : decode cL_law 1101 = .ok (.aload_n 1, 1) := by decide +kernel
theorem dL_law_1102 : decode cL_law 1102 = .ok (.aload_n 0, 1) := by decide +kernel
theorem dL_law_1103 : decode cL_law 1103 = .ok (.iload_n 3, 1) := by decide +kernel
theorem dL_law_1104 : decode cL_law 1104 = .ok (.iconst 1, 1) := by decide +kernel
theorem dL_law_1105 : decode cL_law 1105 = .ok (.iadd, 1) := by decide +kernel
theorem dL_law_1106 : decode cL_law 1106 = .ok (.iaload, 1) := by decide +kernel
theorem dL_law_1107 : decode cL_law 1107 = .ok (.aload_n 0, 1) := by decide +kernel
theorem dL_law_1108 : decode cL_law 1108 = .ok (.iload_n 3, 1) := by decide +kernel
theorem dL_law_1109 : decode cL_law 1109 = .ok (.iconst 2, 1) := by decide +kernel
theorem dL_law_1110 : decode cL_law 1110 = .ok (.iadd, 1) := by decide +kernel
theorem dL_law_1111 : decode cL_law 1111 = .ok (.iaload, 1) := by decide +kernel
theorem dL_law_1112 : decode cL_law 1112 = .ok (.invokevirtual 131, 3) := by decide +kernel
theorem dL_law_1115 : decode cL_law 1115 = .ok (.aload_n 2, 1) := by decide +kernel
theorem dL_law_1116 : decode cL_law 1116 = .ok (.aload_n 0, 1) := by decide +kernel
theorem dL_law_1117 : decode cL_law 1117 = .ok (.iload_n 3, 1) := by decide +kernel
theorem dL_law_1118 : decode cL_law 1118 = .ok (.iconst 1, 1) := by decide +kernel
theorem dL_law_1119 : decode cL_law 1119 = .ok (.iadd, 1) := by decide +kernel
theorem dL_law_1120 : decode cL_law 1120 = .ok (.iaload, 1) := by decide +kernel
theorem dL_law_1121 : decode cL_law 1121 = .ok (.aload_n 0, 1) := by decide +kernel
theorem dL_law_1122 : decode cL_law 1122 = .ok (.iload_n 3, 1) := by decide +kernel
theorem dL_law_1123 : decode cL_law 1123 = .ok (.iconst 2, 1) := by decide +kernel
theorem dL_law_1124 : decode cL_law 1124 = .ok (.iadd, 1) := by decide +kernel
theorem dL_law_1125 : decode cL_law 1125 = .ok (.iaload, 1) := by decide +kernel
theorem dL_law_1126 : decode cL_law 1126 = .ok (.invokevirtual 134, 3) := by decide +kernel
theorem dL_law_1129 : decode cL_law 1129 = .ok (.if_icmp .eq 305, 3) := by decide +kernel
theorem dL_law_1132 : decode cL_law 1132 = .ok (.iconst 0, 1) := by decide +kernel
theorem dL_law_1133 : decode cL_law 1133 = .ok (.ireturn, 1) := by decide +kernel
theorem dL_law_1134 : decode cL_law 1134 = .ok (.aload_n 1, 1) := by decide +kernel
theorem dL_law_1135 : decode cL_law 1135 = .ok (.aload_n 0, 1) := by decide +kernel
theorem dL_law_1136 : decode cL_law 1136 = .ok (.iload_n 3, 1) := by decide +kernel
theorem dL_law_1137 : decode cL_law 1137 = .ok (.iconst 1, 1) := by decide +kernel
theorem dL_law_1138 : decode cL_law 1138 = .ok (.iadd, 1) := by decide +kernel
theorem dL_law_1139 : decode cL_law 1139 = .ok (.iaload, 1) := by decide +kernel
theorem dL_law_1140 : decode cL_law 1140 = .ok (.aload_n 0, 1) := by decide +kernel
theorem dL_law_1141 : decode cL_law 1141 = .ok (.iload_n 3, 1) := by decide +kernel
theorem dL_law_1142 : decode cL_law 1142 = .ok (.iconst 2, 1) := by decide +kernel
theorem dL_law_1143 : decode cL_law 1143 = .ok (.iadd, 1) := by decide +kernel
theorem dL_law_1144 : decode cL_law 1144 = .ok (.iaload, 1) := by decide +kernel
theorem dL_law_1145 : decode cL_law 1145 = .ok (.aload_n 0, 1) := by decide +kernel
theorem dL_law_1146 : decode cL_law 1146 = .ok (.iload_n 3, 1) := by decide +kernel
theorem dL_law_1147 : decode cL_law 1147 = .ok (.iconst 3, 1) := by decide +kernel
theorem dL_law_1148 : decode cL_law 1148 = .ok (.iadd, 1) := by decide +kernel
theorem dL_law_1149 : decode cL_law 1149 = .ok (.iaload, 1) := by decide +kernel
theorem dL_law_1150 : decode cL_law 1150 = .ok (.invokevirtual 135, 3) := by decide +kernel
theorem dL_law_1153 : decode cL_law 1153 = .ok (.aload_n 2, 1) := by decide +kernel
theorem dL_law_1154 : decode cL_law 1154 = .ok (.aload_n 0, 1) := by decide +kernel
theorem dL_law_1155 : decode cL_law 1155 = .ok (.iload_n 3, 1) := by decide +kernel
theorem dL_law_1156 : decode cL_law 1156 = .ok (.iconst 1, 1) := by decide +kernel
theorem dL_law_1157 : decode cL_law 1157 = .ok (.iadd, 1) := by decide +kernel
theorem dL_law_1158 : decode cL_law 1158 = .ok (.iaload, 1) := by decide +kernel
theorem dL_law_1159 : decode cL_law 1159 = .ok (.aload_n 0, 1) := by decide +kernel
theorem dL_law_1160 : decode cL_law 1160 = .ok (.iload_n 3, 1) := by decide +kernel
theorem dL_law_1161 : decode cL_law 1161 = .ok (.iconst 2, 1) := by decide +kernel
theorem dL_law_1162 : decode cL_law 1162 = .ok (.iadd, 1) := by decide +kernel
theorem dL_law_1163 : decode cL_law 1163 = .ok (.iaload, 1) := by decide +kernel
theorem dL_law_1164 : decode cL_law 1164 = .ok (.aload_n 0, 1) := by decide +kernel
theorem dL_law_1165 : decode cL_law 1165 = .ok (.iload_n 3, 1) := by decide +kernel
theorem dL_law_1166 : decode cL_law 1166 = .ok (.iconst 3, 1) := by decide +kernel
theorem dL_law_1167 : decode cL_law 1167 = .ok (.iadd, 1) := by decide +kernel
theorem dL_law_1168 : decode cL_law 1168 = .ok (.iaload, 1) := by decide +kernel
theorem dL_law_1169 : decode cL_law 1169 = .ok (.invokevirtual 138, 3) := by decide +kernel
theorem dL_law_1172 : decode cL_law 1172 = .ok (.if_icmp .eq 262, 3) := by decide +kernel
theorem dL_law_1175 : decode cL_law 1175 = .ok (.iconst 0, 1) := by decide +kernel
theorem dL_law_1176 : decode cL_law 1176 = .ok (.ireturn, 1) := by decide +kernel
theorem dL_law_1177 : decode cL_law 1177 = .ok (.aload_n 1, 1) := by decide +kernel
theorem dL_law_1178 : decode cL_law 1178 = .ok (.aload_n 0, 1) := by decide +kernel
theorem dL_law_1179 : decode cL_law 1179 = .ok (.iload_n 3, 1) := by decide +kernel
theorem dL_law_1180 : decode cL_law 1180 = .ok (.iconst 1, 1) := by decide +kernel
theorem dL_law_1181 : decode cL_law 1181 = .ok (.iadd, 1) := by decide +kernel
theorem dL_law_1182 : decode cL_law 1182 = .ok (.iaload, 1) := by decide +kernel
theorem dL_law_1183 : decode cL_law 1183 = .ok (.invokevirtual 139, 3) := by decide +kernel
theorem dL_law_1186 : decode cL_law 1186 = .ok (.aload_n 2, 1) := by decide +kernel
theorem dL_law_1187 : decode cL_law 1187 = .ok (.aload_n 0, 1) := by decide +kernel
theorem dL_law_1188 : decode cL_law 1188 = .ok (.iload_n 3, 1) := by decide +kernel
theorem dL_law_1189 : decode cL_law 1189 = .ok (.iconst 1, 1) := by decide +kernel
theorem dL_law_1190 : decode cL_law 1190 = .ok (.iadd, 1) := by decide +kernel
theorem dL_law_1191 : decode cL_law 1191 = .ok (.iaload, 1) := by decide +kernel
theorem dL_law_1192 : decode cL_law 1192 = .ok (.invokevirtual 142, 3) := by decide +kernel
theorem dL_law_1195 : decode cL_law 1195 = .ok (.if_icmp .eq 239, 3) := by decide +kernel
theorem dL_law_1198 : decode cL_law 1198 = .ok (.iconst 0, 1) := by decide +kernel
theorem dL_law_1199 : decode cL_law 1199 = .ok (.ireturn, 1) := by decide +kernel
theorem dL_law_1200 : decode cL_law 1200 = .ok (.aload_n 1, 1) := by decide +kernel
theorem dL_law_1201 : decode cL_law 1201 = .ok (.aload_n 0, 1) := by decide +kernel
theorem dL_law_1202 : decode cL_law 1202 = .ok (.iload_n 3, 1) := by decide +kernel
theorem dL_law_1203 : decode cL_law 1203 = .ok (.iconst 1, 1) := by decide +kernel
theorem dL_law_1204 : decode cL_law 1204 = .ok (.iadd, 1) := by decide +kernel
theorem dL_law_1205 : decode cL_law 1205 = .ok (.iaload, 1) := by decide +kernel
theorem dL_law_1206 : decode cL_law 1206 = .ok (.invokevirtual 143, 3) := by decide +kernel
theorem dL_law_1209 : decode cL_law 1209 = .ok (.aload_n 2, 1) := by decide +kernel
theorem dL_law_1210 : decode cL_law 1210 = .ok (.aload_n 0, 1) := by decide +kernel
theorem dL_law_1211 : decode cL_law 1211 = .ok (.iload_n 3, 1) := by decide +kernel
theorem dL_law_1212 : decode cL_law 1212 = .ok (.iconst 1, 1) := by decide +kernel
theorem dL_law_1213 : decode cL_law 1213 = .ok (.iadd, 1) := by decide +kernel
theorem dL_law_1214 : decode cL_law 1214 = .ok (.iaload, 1) := by decide +kernel
theorem dL_law_1215 : decode cL_law 1215 = .ok (.invokevirtual 147, 3) := by decide +kernel
theorem dL_law_1218 : decode cL_law 1218 = .ok (.lcmp, 1) := by decide +kernel
theorem dL_law_1219 : decode cL_law 1219 = .ok (.ifCond .eq 215, 3) := by decide +kernel
theorem dL_law_1222 : decode cL_law 1222 = .ok (.iconst 0, 1) := by decide +kernel
theorem dL_law_1223 : decode cL_law 1223 = .ok (.ireturn, 1) := by decide +kernel
theorem dL_law_1224 : decode cL_law 1224 = .ok (.aload_n 1, 1) := by decide +kernel
theorem dL_law_1225 : decode cL_law 1225 = .ok (.aload_n 0, 1) := by decide +kernel
theorem dL_law_1226 : decode cL_law 1226 = .ok (.iload_n 3, 1) := by decide +kernel
theorem dL_law_1227 : decode cL_law 1227 = .ok (.iconst 1, 1) := by decide +kernel
theorem dL_law_1228 : decode cL_law 1228 = .ok (.iadd, 1) := by decide +kernel
theorem dL_law_1229 : decode cL_law 1229 = .ok (.iaload, 1) := by decide +kernel
theorem dL_law_1230 : decode cL_law 1230 = .ok (.invokevirtual 148, 3) := by decide +kernel
theorem dL_law_1233 : decode cL_law 1233 = .ok (.aload_n 2, 1) := by decide +kernel
theorem dL_law_1234 : decode cL_law 1234 = .ok (.aload_n 0, 1) := by decide +kernel
theorem dL_law_1235 : decode cL_law 1235 = .ok (.iload_n 3, 1) := by decide +kernel
theorem dL_law_1236 : decode cL_law 1236 = .ok (.iconst 1, 1) := by decide +kernel
theorem dL_law_1237 : decode cL_law 1237 = .ok (.iadd, 1) := by decide +kernel
theorem dL_law_1238 : decode cL_law 1238 = .ok (.iaload, 1) := by decide +kernel
theorem dL_law_1239 : decode cL_law 1239 = .ok (.invokevirtual 151, 3) := by decide +kernel
theorem dL_law_1242 : decode cL_law 1242 = .ok (.if_icmp .eq 192, 3) := by decide +kernel
theorem dL_law_1245 : decode cL_law 1245 = .ok (.iconst 0, 1) := by decide +kernel
theorem dL_law_1246 : decode cL_law 1246 = .ok (.ireturn, 1) := by decide +kernel
theorem dL_law_1247 : decode cL_law 1247 = .ok (.aload_n 1, 1) := by decide +kernel
theorem dL_law_1248 : decode cL_law 1248 = .ok (.aload_n 0, 1) := by decide +kernel
theorem dL_law_1249 : decode cL_law 1249 = .ok (.iload_n 3, 1) := by decide +kernel
theorem dL_law_1250 : decode cL_law 1250 = .ok (.iconst 1, 1) := by decide +kernel
theorem dL_law_1251 : decode cL_law 1251 = .ok (.iadd, 1) := by decide +kernel
theorem dL_law_1252 : decode cL_law 1252 = .ok (.iaload, 1) := by decide +kernel
theorem dL_law_1253 : decode cL_law 1253 = .ok (.invokevirtual 152, 3) := by decide +kernel
theorem dL_law_1256 : decode cL_law 1256 = .ok (.aload_n 2, 1) := by decide +kernel
theorem dL_law_1257 : decode cL_law 1257 = .ok (.aload_n 0, 1) := by decide +kernel
theorem dL_law_1258 : decode cL_law 1258 = .ok (.iload_n 3, 1) := by decide +kernel
theorem dL_law_1259 : decode cL_law 1259 = .ok (.iconst 1, 1) := by decide +kernel
theorem dL_law_1260 : decode cL_law 1260 = .ok (.iadd, 1) := by decide +kernel
theorem dL_law_1261 : decode cL_law 1261 = .ok (.iaload, 1) := by decide +kernel
theorem dL_law_1262 : decode cL_law 1262 = .ok (.invokevirtual 155, 3) := by decide +kernel
theorem dL_law_1265 : decode cL_law 1265 = .ok (.if_icmp .eq 169, 3) := by decide +kernel
theorem dL_law_1268 : decode cL_law 1268 = .ok (.iconst 0, 1) := by decide +kernel
theorem dL_law_1269 : decode cL_law 1269 = .ok (.ireturn, 1) := by decide +kernel
theorem dL_law_1270 : decode cL_law 1270 = .ok (.aload_n 1, 1) := by decide +kernel
theorem dL_law_1271 : decode cL_law 1271 = .ok (.aload_n 0, 1) := by decide +kernel
theorem dL_law_1272 : decode cL_law 1272 = .ok (.iload_n 3, 1) := by decide +kernel
theorem dL_law_1273 : decode cL_law 1273 = .ok (.iconst 1, 1) := by decide +kernel
theorem dL_law_1274 : decode cL_law 1274 = .ok (.iadd, 1) := by decide +kernel
theorem dL_law_1275 : decode cL_law 1275 = .ok (.iaload, 1) := by decide +kernel
theorem dL_law_1276 : decode cL_law 1276 = .ok (.invokevirtual 156, 3) := by decide +kernel
theorem dL_law_1279 : decode cL_law 1279 = .ok (.aload_n 2, 1) := by decide +kernel
theorem dL_law_1280 : decode cL_law 1280 = .ok (.aload_n 0, 1) := by decide +kernel
theorem dL_law_1281 : decode cL_law 1281 = .ok (.iload_n 3, 1) := by decide +kernel
theorem dL_law_1282 : decode cL_law 1282 = .ok (.iconst 1, 1) := by decide +kernel
theorem dL_law_1283 : decode cL_law 1283 = .ok (.iadd, 1) := by decide +kernel
theorem dL_law_1284 : decode cL_law 1284 = .ok (.iaload, 1) := by decide +kernel
theorem dL_law_1285 : decode cL_law 1285 = .ok (.invokevirtual 159, 3) := by decide +kernel
theorem dL_law_1288 : decode cL_law 1288 = .ok (.if_icmp .eq 146, 3) := by decide +kernel
theorem dL_law_1291 : decode cL_law 1291 = .ok (.iconst 0, 1) := by decide +kernel
theorem dL_law_1292 : decode cL_law 1292 = .ok (.ireturn, 1) := by decide +kernel
theorem dL_law_1293 : decode cL_law 1293 = .ok (.aload_n 1, 1) := by decide +kernel
theorem dL_law_1294 : decode cL_law 1294 = .ok (.aload_n 0, 1) := by decide +kernel
theorem dL_law_1295 : decode cL_law 1295 = .ok (.iload_n 3, 1) := by decide +kernel
theorem dL_law_1296 : decode cL_law 1296 = .ok (.iconst 1, 1) := by decide +kernel
theorem dL_law_1297 : decode cL_law 1297 = .ok (.iadd, 1) := by decide +kernel
theorem dL_law_1298 : decode cL_law 1298 = .ok (.iaload, 1) := by decide +kernel
theorem dL_law_1299 : decode cL_law 1299 = .ok (.invokevirtual 160, 3) := by decide +kernel
theorem dL_law_1302 : decode cL_law 1302 = .ok (.aload_n 2, 1) := by decide +kernel
theorem dL_law_1303 : decode cL_law 1303 = .ok (.aload_n 0, 1) := by decide +kernel
theorem dL_law_1304 : decode cL_law 1304 = .ok (.iload_n 3, 1) := by decide +kernel
theorem dL_law_1305 : decode cL_law 1305 = .ok (.iconst 1, 1) := by decide +kernel
theorem dL_law_1306 : decode cL_law 1306 = .ok (.iadd, 1) := by decide +kernel
theorem dL_law_1307 : decode cL_law 1307 = .ok (.iaload, 1) := by decide +kernel
theorem dL_law_1308 : decode cL_law 1308 = .ok (.invokevirtual 163, 3) := by decide +kernel
theorem dL_law_1311 : decode cL_law 1311 = .ok (.if_icmp .eq 123, 3) := by decide +kernel
theorem dL_law_1314 : decode cL_law 1314 = .ok (.iconst 0, 1) := by decide +kernel
theorem dL_law_1315 : decode cL_law 1315 = .ok (.ireturn, 1) := by decide +kernel
theorem dL_law_1316 : decode cL_law 1316 = .ok (.aload_n 1, 1) := by decide +kernel
theorem dL_law_1317 : decode cL_law 1317 = .ok (.invokevirtual 164, 3) := by decide +kernel
theorem dL_law_1320 : decode cL_law 1320 = .ok (.aload_n 2, 1) := by decide +kernel
theorem dL_law_1321 : decode cL_law 1321 = .ok (.invokevirtual 167, 3) := by decide +kernel
theorem dL_law_1324 : decode cL_law 1324 = .ok (.if_icmp .eq 110, 3) := by decide +kernel
theorem dL_law_1327 : decode cL_law 1327 = .ok (.iconst 0, 1) := by decide +kernel
theorem dL_law_1328 : decode cL_law 1328 = .ok (.ireturn, 1) := by decide +kernel
theorem dL_law_1329 : decode cL_law 1329 = .ok (.aload_n 1, 1) := by decide +kernel
theorem dL_law_1330 : decode cL_law 1330 = .ok (.invokevirtual 168, 3) := by decide +kernel
theorem dL_law_1333 : decode cL_law 1333 = .ok (.aload_n 2, 1) := by decide +kernel
theorem dL_law_1334 : decode cL_law 1334 = .ok (.invokevirtual 171, 3) := by decide +kernel
theorem dL_law_1337 : decode cL_law 1337 = .ok (.if_icmp .eq 97, 3) := by decide +kernel
theorem dL_law_1340 : decode cL_law 1340 = .ok (.iconst 0, 1) := by decide +kernel
theorem dL_law_1341 : decode cL_law 1341 = .ok (.ireturn, 1) := by decide +kernel
theorem dL_law_1342 : decode cL_law 1342 = .ok (.aload_n 1, 1) := by decide +kernel
theorem dL_law_1343 : decode cL_law 1343 = .ok (.aload_n 0, 1) := by decide +kernel
theorem dL_law_1344 : decode cL_law 1344 = .ok (.iload_n 3, 1) := by decide +kernel
theorem dL_law_1345 : decode cL_law 1345 = .ok (.iconst 1, 1) := by decide +kernel
theorem dL_law_1346 : decode cL_law 1346 = .ok (.iadd, 1) := by decide +kernel
theorem dL_law_1347 : decode cL_law 1347 = .ok (.iaload, 1) := by decide +kernel
theorem dL_law_1348 : decode cL_law 1348 = .ok (.aload_n 0, 1) := by decide +kernel
theorem dL_law_1349 : decode cL_law 1349 = .ok (.iload_n 3, 1) := by decide +kernel
theorem dL_law_1350 : decode cL_law 1350 = .ok (.iconst 2, 1) := by decide +kernel
theorem dL_law_1351 : decode cL_law 1351 = .ok (.iadd, 1) := by decide +kernel
theorem dL_law_1352 : decode cL_law 1352 = .ok (.iaload, 1) := by decide +kernel
theorem dL_law_1353 : decode cL_law 1353 = .ok (.aload_n 0, 1) := by decide +kernel
theorem dL_law_1354 : decode cL_law 1354 = .ok (.iload_n 3, 1) := by decide +kernel
theorem dL_law_1355 : decode cL_law 1355 = .ok (.iconst 3, 1) := by decide +kernel
theorem dL_law_1356 : decode cL_law 1356 = .ok (.iadd, 1) := by decide +kernel
theorem dL_law_1357 : decode cL_law 1357 = .ok (.iaload, 1) := by decide +kernel
theorem dL_law_1358 : decode cL_law 1358 = .ok (.invokevirtual 172, 3) := by decide +kernel
theorem dL_law_1361 : decode cL_law 1361 = .ok (.aload_n 2, 1) := by decide +kernel
theorem dL_law_1362 : decode cL_law 1362 = .ok (.aload_n 0, 1) := by decide +kernel
theorem dL_law_1363 : decode cL_law 1363 = .ok (.iload_n 3, 1) := by decide +kernel
theorem dL_law_1364 : decode cL_law 1364 = .ok (.iconst 1, 1) := by decide +kernel
theorem dL_law_1365 : decode cL_law 1365 = .ok (.iadd, 1) := by decide +kernel
theorem dL_law_1366 : decode cL_law 1366 = .ok (.iaload, 1) := by decide +kernel
theorem dL_law_1367 : decode cL_law 1367 = .ok (.aload_n 0, 1) := by decide +kernel
theorem dL_law_1368 : decode cL_law 1368 = .ok (.iload_n 3, 1) := by decide +kernel
theorem dL_law_1369 : decode cL_law 1369 = .ok (.iconst 2, 1) := by decide +kernel
theorem dL_law_1370 : decode cL_law 1370 = .ok (.iadd, 1) := by decide +kernel
theorem dL_law_1371 : decode cL_law 1371 = .ok (.iaload, 1) := by decide +kernel
theorem dL_law_1372 : decode cL_law 1372 = .ok (.aload_n 0, 1) := by decide +kernel
theorem dL_law_1373 : decode cL_law 1373 = .ok (.iload_n 3, 1) := by decide +kernel
theorem dL_law_1374 : decode cL_law 1374 = .ok (.iconst 3, 1) := by decide +kernel
theorem dL_law_1375 : decode cL_law 1375 = .ok (.iadd, 1) := by decide +kernel
theorem dL_law_1376 : decode cL_law 1376 = .ok (.iaload, 1) := by decide +kernel
theorem dL_law_1377 : decode cL_law 1377 = .ok (.invokevirtual 175, 3) := by decide +kernel
theorem dL_law_1380 : decode cL_law 1380 = .ok (.if_icmp .eq 54, 3) := by decide +kernel
theorem dL_law_1383 : decode cL_law 1383 = .ok (.iconst 0, 1) := by decide +kernel
theorem dL_law_1384 : decode cL_law 1384 = .ok (.ireturn, 1) := by decide +kernel
theorem dL_law_1385 : decode cL_law 1385 = .ok (.aload_n 1, 1) := by decide +kernel
theorem dL_law_1386 : decode cL_law 1386 = .ok (.invokevirtual 176, 3) := by decide +kernel
theorem dL_law_1389 : decode cL_law 1389 = .ok (.aload_n 2, 1) := by decide +kernel
theorem dL_law_1390 : decode cL_law 1390 = .ok (.invokevirtual 179, 3) := by decide +kernel
theorem dL_law_1393 : decode cL_law 1393 = .ok (.if_icmp .eq 41, 3) := by decide +kernel
theorem dL_law_1396 : decode cL_law 1396 = .ok (.iconst 0, 1) := by decide +kernel
theorem dL_law_1397 : decode cL_law 1397 = .ok (.ireturn, 1) := by decide +kernel
theorem dL_law_1398 : decode cL_law 1398 = .ok (.aload_n 1, 1) := by decide +kernel
theorem dL_law_1399 : decode cL_law 1399 = .ok (.invokevirtual 180, 3) := by decide +kernel
theorem dL_law_1402 : decode cL_law 1402 = .ok (.aload_n 2, 1) := by decide +kernel
theorem dL_law_1403 : decode cL_law 1403 = .ok (.invokevirtual 183, 3) := by decide +kernel
theorem dL_law_1406 : decode cL_law 1406 = .ok (.if_icmp .eq 28, 3) := by decide +kernel
theorem dL_law_1409 : decode cL_law 1409 = .ok (.iconst 0, 1) := by decide +kernel
theorem dL_law_1410 : decode cL_law 1410 = .ok (.ireturn, 1) := by decide +kernel
theorem dL_law_1411 : decode cL_law 1411 = .ok (.aload_n 1, 1) := by decide +kernel
theorem dL_law_1412 : decode cL_law 1412 = .ok (.aload_n 0, 1) := by decide +kernel
theorem dL_law_1413 : decode cL_law 1413 = .ok (.iload_n 3, 1) := by decide +kernel
theorem dL_law_1414 : decode cL_law 1414 = .ok (.iconst 1, 1) := by decide +kernel
theorem dL_law_1415 : decode cL_law 1415 = .ok (.iadd, 1) := by decide +kernel
theorem dL_law_1416 : decode cL_law 1416 = .ok (.iaload, 1) := by decide +kernel
theorem dL_law_1417 : decode cL_law 1417 = .ok (.invokevirtual 184, 3) := by decide +kernel
theorem dL_law_1420 : decode cL_law 1420 = .ok (.aload_n 2, 1) := by decide +kernel
theorem dL_law_1421 : decode cL_law 1421 = .ok (.aload_n 0, 1) := by decide +kernel
theorem dL_law_1422 : decode cL_law 1422 = .ok (.iload_n 3, 1) := by decide +kernel
theorem dL_law_1423 : decode cL_law 1423 = .ok (.iconst 1, 1) := by decide +kernel
theorem dL_law_1424 : decode cL_law 1424 = .ok (.iadd, 1) := by decide +kernel
theorem dL_law_1425 : decode cL_law 1425 = .ok (.iaload, 1) := by decide +kernel
theorem dL_law_1426 : decode cL_law 1426 = .ok (.invokevirtual 187, 3) := by decide +kernel
theorem dL_law_1429 : decode cL_law 1429 = .ok (.if_icmp .eq 5, 3) := by decide +kernel
theorem dL_law_1432 : decode cL_law 1432 = .ok (.iconst 0, 1) := by decide +kernel
theorem dL_law_1433 : decode cL_law 1433 = .ok (.ireturn, 1) := by decide +kernel
theorem dL_law_1434 : decode cL_law 1434 = .ok (.iinc 3 6, 3) := by decide +kernel
theorem dL_law_1437 : decode cL_law 1437 = .ok (.goto (-1419), 3) := by decide +kernel
theorem dL_law_1440 : decode cL_law 1440 = .ok (.iconst 1, 1) := by decide +kernel
theorem dL_law_1441 : decode cL_law 1441 = .ok (.ireturn, 1) := by decide +kernel
