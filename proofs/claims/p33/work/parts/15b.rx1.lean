theorem dX1_init_0 : decode cX1_init 0 = .ok (.aload_n 0, 1) := by decide +kernel
theorem dX1_init_1 : decode cX1_init 1 = .ok (.invokespecial 3, 3) := by decide +kernel
theorem dX1_init_4 : decode cX1_init 4 = .ok (.aload_n 0, 1) := by decide +kernel
theorem dX1_init_5 : decode cX1_init 5 = .ok (.bipush 100, 2) := by decide +kernel
theorem dX1_init_7 : decode cX1_init 7 = .ok (.newarray .byte, 2) := by decide +kernel
theorem dX1_init_9 : decode cX1_init 9 = .ok (.putfield 9, 3) := by decide +kernel
theorem dX1_init_12 : decode cX1_init 12 = .ok (.aload_n 0, 1) := by decide +kernel
theorem dX1_init_13 : decode cX1_init 13 = .ok (.iconst 0, 1) := by decide +kernel
theorem dX1_init_14 : decode cX1_init 14 = .ok (.putfield 15, 3) := by decide +kernel
theorem dX1_init_17 : decode cX1_init 17 = .ok (.aload_n 0, 1) := by decide +kernel
theorem dX1_init_18 : decode cX1_init 18 = .ok (.iconst 0, 1) := by decide +kernel
theorem dX1_init_19 : decode cX1_init 19 = .ok (.putfield 19, 3) := by decide +kernel
theorem dX1_init_22 : decode cX1_init 22 = .ok (.aload_n 0, 1) := by decide +kernel
theorem dX1_init_23 : decode cX1_init 23 = .ok (.iconst (-1), 1) := by decide +kernel
theorem dX1_init_24 : decode cX1_init 24 = .ok (.putfield 22, 3) := by decide +kernel
theorem dX1_init_27 : decode cX1_init 27 = .ok (.aload_n 0, 1) := by decide +kernel
theorem dX1_init_28 : decode cX1_init 28 = .ok (.iconst 0, 1) := by decide +kernel
theorem dX1_init_29 : decode cX1_init 29 = .ok (.putfield 25, 3) := by decide +kernel
theorem dX1_init_32 : decode cX1_init 32 = .ok (.aload_n 0, 1) := by decide +kernel
theorem dX1_init_33 : decode cX1_init 33 = .ok (.iconst 5, 1) := by decide +kernel
theorem dX1_init_34 : decode cX1_init 34 = .ok (.newarray .int, 2) := by decide +kernel
theorem dX1_init_36 : decode cX1_init 36 = .ok (.putfield 28, 3) := by decide +kernel
theorem dX1_init_39 : decode cX1_init 39 = .ok (.aload_n 0, 1) := by decide +kernel
theorem dX1_init_40 : decode cX1_init 40 = .ok (.iconst 0, 1) := by decide +kernel
theorem dX1_init_41 : decode cX1_init 41 = .ok (.putfield 32, 3) := by decide +kernel
theorem dX1_init_44 : decode cX1_init 44 = .ok (.return_, 1) := by decide +kernel
theorem dX2_init_0 : decode cX2_init 0 = .ok (.aload_n 0, 1) := by decide +kernel
theorem dX2_init_1 : decode cX2_init 1 = .ok (.invokespecial 3, 3) := by decide +kernel
theorem dX2_init_4 : decode cX2_init 4 = .ok (.aload_n 0, 1) := by decide +kernel
theorem dX2_init_5 : decode cX2_init 5 = .ok (.iconst 0, 1) := by decide +kernel
theorem dX2_init_6 : decode cX2_init 6 = .ok (.putfield 9, 3) := by decide +kernel
theorem dX2_init_9 : decode cX2_init 9 = .ok (.aload_n 0, 1) := by decide +kernel
theorem dX2_init_10 : decode cX2_init 10 = .ok (.bipush 12, 2) := by decide +kernel
theorem dX2_init_12 : decode cX2_init 12 = .ok (.newarray .int, 2) := by decide +kernel
theorem dX2_init_14 : decode cX2_init 14 = .ok (.putfield 15, 3) := by decide +kernel
theorem dX2_init_17 : decode cX2_init 17 = .ok (.aload_n 0, 1) := by decide +kernel
theorem dX2_init_18 : decode cX2_init 18 = .ok (.bipush 12, 2) := by decide +kernel
theorem dX2_init_20 : decode cX2_init 20 = .ok (.newarray .int, 2) := by decide +kernel
theorem dX2_init_22 : decode cX2_init 22 = .ok (.putfield 19, 3) := by decide +kernel
theorem dX2_init_25 : decode cX2_init 25 = .ok (.aload_n 0, 1) := by decide +kernel
theorem dX2_init_26 : decode cX2_init 26 = .ok (.bipush 12, 2) := by decide +kernel
theorem dX2_init_28 : decode cX2_init 28 = .ok (.newarray .int, 2) := by decide +kernel
theorem dX2_init_30 : decode cX2_init 30 = .ok (.putfield 22, 3) := by decide +kernel
theorem dX2_init_33 : decode cX2_init 33 = .ok (.aload_n 0, 1) := by decide +kernel
theorem dX2_init_34 : decode cX2_init 34 = .ok (.bipush 12, 2) := by decide +kernel
theorem dX2_init_36 : decode cX2_init 36 = .ok (.newarray .int, 2) := by decide +kernel
theorem dX2_init_38 : decode cX2_init 38 = .ok (.putfield 25, 3) := by decide +kernel
theorem dX2_init_41 : decode cX2_init 41 = .ok (.aload_n 0, 1) := by decide +kernel
theorem dX2_init_42 : decode cX2_init 42 = .ok (.bipush 12, 2) := by decide +kernel
theorem dX2_init_44 : decode cX2_init 44 = .ok (.newarray .int, 2) := by decide +kernel
theorem dX2_init_46 : decode cX2_init 46 = .ok (.putfield 28, 3) := by decide +kernel
theorem dX2_init_49 : decode cX2_init 49 = .ok (.return_, 1) := by decide +kernel
theorem dX2_copy_0 : decode cX2_copy 0 = .ok (.aload_n 0, 1) := by decide +kernel
theorem dX2_copy_1 : decode cX2_copy 1 = .ok (.aload_n 1, 1) := by decide +kernel
theorem dX2_copy_2 : decode cX2_copy 2 = .ok (.getfield 9, 3) := by decide +kernel
theorem dX2_copy_5 : decode cX2_copy 5 = .ok (.putfield 9, 3) := by decide +kernel
theorem dX2_copy_8 : decode cX2_copy 8 = .ok (.aload_n 1, 1) := by decide +kernel
theorem dX2_copy_9 : decode cX2_copy 9 = .ok (.getfield 15, 3) := by decide +kernel
theorem dX2_copy_12 : decode cX2_copy 12 = .ok (.iconst 0, 1) := by decide +kernel
theorem dX2_copy_13 : decode cX2_copy 13 = .ok (.aload_n 0, 1) := by decide +kernel
theorem dX2_copy_14 : decode cX2_copy 14 = .ok (.getfield 15, 3) := by decide +kernel
theorem dX2_copy_17 : decode cX2_copy 17 = .ok (.iconst 0, 1) := by decide +kernel
theorem dX2_copy_18 : decode cX2_copy 18 = .ok (.bipush 12, 2) := by decide +kernel
theorem dX2_copy_20 : decode cX2_copy 20 = .ok (.invokestatic 31, 3) := by decide +kernel
theorem dX2_copy_23 : decode cX2_copy 23 = .ok (.aload_n 1, 1) := by decide +kernel
theorem dX2_copy_24 : decode cX2_copy 24 = .ok (.getfield 19, 3) := by decide +kernel
theorem dX2_copy_27 : decode cX2_copy 27 = .ok (.iconst 0, 1) := by decide +kernel
theorem dX2_copy_28 : decode cX2_copy 28 = .ok (.aload_n 0, 1) := by decide +kernel
theorem dX2_copy_29 : decode cX2_copy 29 = .ok (.getfield 19, 3) := by decide +kernel
theorem dX2_copy_32 : decode cX2_copy 32 = .ok (.iconst 0, 1) := by decide +kernel
theorem dX2_copy_33 : decode cX2_copy 33 = .ok (.bipush 12, 2) := by decide +kernel
theorem dX2_copy_35 : decode cX2_copy 35 = .ok (.invokestatic 31, 3) := by decide +kernel
theorem dX2_copy_38 : decode cX2_copy 38 = .ok (.aload_n 1, 1) := by decide +kernel
theorem dX2_copy_39 : decode cX2_copy 39 = .ok (.getfield 22, 3) := by decide +kernel
theorem dX2_copy_42 : decode cX2_copy 42 = .ok (.iconst 0, 1) := by decide +kernel
theorem dX2_copy_43 : decode cX2_copy 43 = .ok (.aload_n 0, 1) := by decide +kernel
theorem dX2_copy_44 : decode cX2_copy 44 = .ok (.getfield 22, 3) := by decide +kernel
theorem dX2_copy_47 : decode cX2_copy 47 = .ok (.iconst 0, 1) := by decide +kernel
theorem dX2_copy_48 : decode cX2_copy 48 = .ok (.bipush 12, 2) := by decide +kernel
theorem dX2_copy_50 : decode cX2_copy 50 = .ok (.invokestatic 31, 3) := by decide +kernel
theorem dX2_copy_53 : decode cX2_copy 53 = .ok (.aload_n 1, 1) := by decide +kernel
theorem dX2_copy_54 : decode cX2_copy 54 = .ok (.getfield 25, 3) := by decide +kernel
theorem dX2_copy_57 : decode cX2_copy 57 = .ok (.iconst 0, 1) := by decide +kernel
theorem dX2_copy_58 : decode cX2_copy 58 = .ok (.aload_n 0, 1) := by decide +kernel
theorem dX2_copy_59 : decode cX2_copy 59 = .ok (.getfield 25, 3) := by decide +kernel
theorem dX2_copy_62 : decode cX2_copy 62 = .ok (.iconst 0, 1) := by decide +kernel
theorem dX2_copy_63 : decode cX2_copy 63 = .ok (.bipush 12, 2) := by decide +kernel
theorem dX2_copy_65 : decode cX2_copy 65 = .ok (.invokestatic 31, 3) := by decide +kernel
theorem dX2_copy_68 : decode cX2_copy 68 = .ok (.aload_n 1, 1) := by decide +kernel
theorem dX2_copy_69 : decode cX2_copy 69 = .ok (.getfield 28, 3) := by decide +kernel
theorem dX2_copy_72 : decode cX2_copy 72 = .ok (.iconst 0, 1) := by decide +kernel
theorem dX2_copy_73 : decode cX2_copy 73 = .ok (.aload_n 0, 1) := by decide +kernel
theorem dX2_copy_74 : decode cX2_copy 74 = .ok (.getfield 28, 3) := by decide +kernel
theorem dX2_copy_77 : decode cX2_copy 77 = .ok (.iconst 0, 1) := by decide +kernel
theorem dX2_copy_78 : decode cX2_copy 78 = .ok (.bipush 12, 2) := by decide +kernel
theorem dX2_copy_80 : decode cX2_copy 80 = .ok (.invokestatic 31, 3) := by decide +kernel
theorem dX2_copy_83 : decode cX2_copy 83 = .ok (.return_, 1) := by decide +kernel
theorem dX2_addRow_0 : decode cX2_addRow 0 = .ok (.aload_n 0, 1) := by decide +kernel
theorem dX2_addRow_1 : decode cX2_addRow 1 = .ok (.getfield 9, 3) := by decide +kernel
theorem dX2_addRow_4 : decode cX2_addRow 4 = .ok (.istore 6, 2) := by decide +kernel
theorem dX2_addRow_6 : decode cX2_addRow 6 = .ok (.aload_n 0, 1) := by decide +kernel
theorem dX2_addRow_7 : decode cX2_addRow 7 = .ok (.getfield 15, 3) := by decide +kernel
theorem dX2_addRow_10 : decode cX2_addRow 10 = .ok (.iload 6, 2) := by decide +kernel
theorem dX2_addRow_12 : decode cX2_addRow 12 = .ok (.iload_n 1, 1) := by decide +kernel
theorem dX2_addRow_13 : decode cX2_addRow 13 = .ok (.iastore, 1) := by decide +kernel
theorem dX2_addRow_14 : decode cX2_addRow 14 = .ok (.aload_n 0, 1) := by decide +kernel
theorem dX2_addRow_15 : decode cX2_addRow 15 = .ok (.getfield 19, 3) := by decide +kernel
theorem dX2_addRow_18 : decode cX2_addRow 18 = .ok (.iload 6, 2) := by decide +kernel
theorem dX2_addRow_20 : decode cX2_addRow 20 = .ok (.iload_n 2, 1) := by decide +kernel
theorem dX2_addRow_21 : decode cX2_addRow 21 = .ok (.iastore, 1) := by decide +kernel
theorem dX2_addRow_22 : decode cX2_addRow 22 = .ok (.aload_n 0, 1) := by decide +kernel
theorem dX2_addRow_23 : decode cX2_addRow 23 = .ok (.getfield 22, 3) := by decide +kernel
theorem dX2_addRow_26 : decode cX2_addRow 26 = .ok (.iload 6, 2) := by decide +kernel
theorem dX2_addRow_28 : decode cX2_addRow 28 = .ok (.iload_n 3, 1) := by decide +kernel
theorem dX2_addRow_29 : decode cX2_addRow 29 = .ok (.iastore, 1) := by decide +kernel
theorem dX2_addRow_30 : decode cX2_addRow 30 = .ok (.aload_n 0, 1) := by decide +kernel
theorem dX2_addRow_31 : decode cX2_addRow 31 = .ok (.getfield 25, 3) := by decide +kernel
theorem dX2_addRow_34 : decode cX2_addRow 34 = .ok (.iload 6, 2) := by decide +kernel
theorem dX2_addRow_36 : decode cX2_addRow 36 = .ok (.iload 4, 2) := by decide +kernel
theorem dX2_addRow_38 : decode cX2_addRow 38 = .ok (.iastore, 1) := by decide +kernel
theorem dX2_addRow_39 : decode cX2_addRow 39 = .ok (.aload_n 0, 1) := by decide +kernel
theorem dX2_addRow_40 : decode cX2_addRow 40 = .ok (.getfield 28, 3) := by decide +kernel
theorem dX2_addRow_43 : decode cX2_addRow 43 = .ok (.iload 6, 2) := by decide +kernel
theorem dX2_addRow_45 : decode cX2_addRow 45 = .ok (.iload 5, 2) := by decide +kernel
theorem dX2_addRow_47 : decode cX2_addRow 47 = .ok (.iastore, 1) := by decide +kernel
theorem dX2_addRow_48 : decode cX2_addRow 48 = .ok (.aload_n 0, 1) := by decide +kernel
theorem dX2_addRow_49 : decode cX2_addRow 49 = .ok (.dup, 1) := by decide +kernel
theorem dX2_addRow_50 : decode cX2_addRow 50 = .ok (.getfield 9, 3) := by decide +kernel
theorem dX2_addRow_53 : decode cX2_addRow 53 = .ok (.iconst 1, 1) := by decide +kernel
theorem dX2_addRow_54 : decode cX2_addRow 54 = .ok (.iadd, 1) := by decide +kernel
theorem dX2_addRow_55 : decode cX2_addRow 55 = .ok (.putfield 9, 3) := by decide +kernel
theorem dX2_addRow_58 : decode cX2_addRow 58 = .ok (.iload 6, 2) := by decide +kernel
theorem dX2_addRow_60 : decode cX2_addRow 60 = .ok (.ireturn, 1) := by decide +kernel
theorem dX2_remove_0 : decode cX2_remove 0 = .ok (.aload_n 0, 1) := by decide +kernel
theorem dX2_remove_1 : decode cX2_remove 1 = .ok (.dup, 1) := by decide +kernel
theorem dX2_remove_2 : decode cX2_remove 2 = .ok (.getfield 9, 3) := by decide +kernel
theorem dX2_remove_5 : decode cX2_remove 5 = .ok (.iconst 1, 1) := by decide +kernel
theorem dX2_remove_6 : decode cX2_remove 6 = .ok (.isub, 1) := by decide +kernel
theorem dX2_remove_7 : decode cX2_remove 7 = .ok (.putfield 9, 3) := by decide +kernel
theorem dX2_remove_10 : decode cX2_remove 10 = .ok (.iload_n 1, 1) := by decide +kernel
theorem dX2_remove_11 : decode cX2_remove 11 = .ok (.istore_n 2, 1) := by decide +kernel
theorem dX2_remove_12 : decode cX2_remove 12 = .ok (.iload_n 2, 1) := by decide +kernel
theorem dX2_remove_13 : decode cX2_remove 13 = .ok (.aload_n 0, 1) := by decide +kernel
theorem dX2_remove_14 : decode cX2_remove 14 = .ok (.getfield 9, 3) := by decide +kernel
theorem dX2_remove_17 : decode cX2_remove 17 = .ok (.if_icmp .ge 79, 3) := by decide +kernel
theorem dX2_remove_20 : decode cX2_remove 20 = .ok (.aload_n 0, 1) := by decide +kernel
theorem dX2_remove_21 : decode cX2_remove 21 = .ok (.getfield 15, 3) := by decide +kernel
theorem dX2_remove_24 : decode cX2_remove 24 = .ok (.iload_n 2, 1) := by decide +kernel
theorem dX2_remove_25 : decode cX2_remove 25 = .ok (.aload_n 0, 1) := by decide +kernel
theorem dX2_remove_26 : decode cX2_remove 26 = .ok (.getfield 15, 3) := by decide +kernel
theorem dX2_remove_29 : decode cX2_remove 29 = .ok (.iload_n 2, 1) := by decide +kernel
theorem dX2_remove_30 : decode cX2_remove 30 = .ok (.iconst 1, 1) := by decide +kernel
theorem dX2_remove_31 : decode cX2_remove 31 = .ok (.iadd, 1) := by decide +kernel
theorem dX2_remove_32 : decode cX2_remove 32 = .ok (.iaload, 1) := by decide +kernel
theorem dX2_remove_33 : decode cX2_remove 33 = .ok (.iastore, 1) := by decide +kernel
theorem dX2_remove_34 : decode cX2_remove 34 = .ok (.aload_n 0, 1) := by decide +kernel
theorem dX2_remove_35 : decode cX2_remove 35 = .ok (.getfield 19, 3) := by decide +kernel
theorem dX2_remove_38 : decode cX2_remove 38 = .ok (.iload_n 2, 1) := by decide +kernel
theorem dX2_remove_39 : decode cX2_remove 39 = .ok (.aload_n 0, 1) := by decide +kernel
theorem dX2_remove_40 : decode cX2_remove 40 = .ok (.getfield 19, 3) := by decide +kernel
theorem dX2_remove_43 : decode cX2_remove 43 = .ok (.iload_n 2, 1) := by decide +kernel
theorem dX2_remove_44 : decode cX2_remove 44 = .ok (.iconst 1, 1) := by decide +kernel
theorem dX2_remove_45 : decode cX2_remove 45 = .ok (.iadd, 1) := by decide +kernel
theorem dX2_remove_46 : decode cX2_remove 46 = .ok (.iaload, 1) := by decide +kernel
theorem dX2_remove_47 : decode cX2_remove 47 = .ok (.iastore, 1) := by decide +kernel
theorem dX2_remove_48 : decode cX2_remove 48 = .ok (.aload_n 0, 1) := by decide +kernel
theorem dX2_remove_49 : decode cX2_remove 49 = .ok (.getfield 22, 3) := by decide +kernel
theorem dX2_remove_52 : decode cX2_remove 52 = .ok (.iload_n 2, 1) := by decide +kernel
theorem dX2_remove_53 : decode cX2_remove 53 = .ok (.aload_n 0, 1) := by decide +kernel
theorem dX2_remove_54 : decode cX2_remove 54 = .ok (.getfield 22, 3) := by decide +kernel
theorem dX2_remove_57 : decode cX2_remove 57 = .ok (.iload_n 2, 1) := by decide +kernel
theorem dX2_remove_58 : decode cX2_remove 58 = .ok (.iconst 1, 1) := by decide +kernel
theorem dX2_remove_59 : decode cX2_remove 59 = .ok (.iadd, 1) := by decide +kernel
theorem dX2_remove_60 : decode cX2_remove 60 = .ok (.iaload, 1) := by decide +kernel
theorem dX2_remove_61 : decode cX2_remove 61 = .ok (.iastore, 1) := by decide +kernel
theorem dX2_remove_62 : decode cX2_remove 62 = .ok (.aload_n 0, 1) := by decide +kernel
theorem dX2_remove_63 : decode cX2_remove 63 = .ok (.getfield 25, 3) := by decide +kernel
theorem dX2_remove_66 : decode cX2_remove 66 = .ok (.iload_n 2, 1) := by decide +kernel
theorem dX2_remove_67 : decode cX2_remove 67 = .ok (.aload_n 0, 1) := by decide +kernel
theorem dX2_remove_68 : decode cX2_remove 68 = .ok (.getfield 25, 3) := by decide +kernel
theorem dX2_remove_71 : decode cX2_remove 71 = .ok (.iload_n 2, 1) := by decide +kernel
theorem dX2_remove_72 : decode cX2_remove 72 = .ok (.iconst 1, 1) := by decide +kernel
theorem dX2_remove_73 : decode cX2_remove 73 = .ok (.iadd, 1) := by decide +kernel
theorem dX2_remove_74 : decode cX2_remove 74 = .ok (.iaload, 1) := by decide +kernel
theorem dX2_remove_75 : decode cX2_remove 75 = .ok (.iastore, 1) := by decide +kernel
theorem dX2_remove_76 : decode cX2_remove 76 = .ok (.aload_n 0, 1) := by decide +kernel
theorem dX2_remove_77 : decode cX2_remove 77 = .ok (.getfield 28, 3) := by decide +kernel
theorem dX2_remove_80 : decode cX2_remove 80 = .ok (.iload_n 2, 1) := by decide +kernel
theorem dX2_remove_81 : decode cX2_remove 81 = .ok (.aload_n 0, 1) := by decide +kernel
theorem dX2_remove_82 : decode cX2_remove 82 = .ok (.getfield 28, 3) := by decide +kernel
theorem dX2_remove_85 : decode cX2_remove 85 = .ok (.iload_n 2, 1) := by decide +kernel
theorem dX2_remove_86 : decode cX2_remove 86 = .ok (.iconst 1, 1) := by decide +kernel
theorem dX2_remove_87 : decode cX2_remove 87 = .ok (.iadd, 1) := by decide +kernel
theorem dX2_remove_88 : decode cX2_remove 88 = .ok (.iaload, 1) := by decide +kernel
theorem dX2_remove_89 : decode cX2_remove 89 = .ok (.iastore, 1) := by decide +kernel
theorem dX2_remove_90 : decode cX2_remove 90 = .ok (.iinc 2 1, 3) := by decide +kernel
theorem dX2_remove_93 : decode cX2_remove 93 = .ok (.goto (-81), 3) := by decide +kernel
theorem dX2_remove_96 : decode cX2_remove 96 = .ok (.return_, 1) := by decide +kernel
theorem dX2_about_0 : decode cX2_about 0 = .ok (.iload_n 2, 1) := by decide +kernel
theorem dX2_about_1 : decode cX2_about 1 = .ok (.tableswitch 59 0 3 #[31, 38, 45, 52], 31) := by decide +kernel
theorem dX2_about_32 : decode cX2_about 32 = .ok (.aload_n 0, 1) := by decide +kernel
theorem dX2_about_33 : decode cX2_about 33 = .ok (.getfield 15, 3) := by decide +kernel
theorem dX2_about_36 : decode cX2_about 36 = .ok (.iload_n 1, 1) := by decide +kernel
theorem dX2_about_37 : decode cX2_about 37 = .ok (.iaload, 1) := by decide +kernel
theorem dX2_about_38 : decode cX2_about 38 = .ok (.ireturn, 1) := by decide +kernel
theorem dX2_about_39 : decode cX2_about 39 = .ok (.aload_n 0, 1) := by decide +kernel
theorem dX2_about_40 : decode cX2_about 40 = .ok (.getfield 19, 3) := by decide +kernel
theorem dX2_about_43 : decode cX2_about 43 = .ok (.iload_n 1, 1) := by decide +kernel
theorem dX2_about_44 : decode cX2_about 44 = .ok (.iaload, 1) := by decide +kernel
theorem dX2_about_45 : decode cX2_about 45 = .ok (.ireturn, 1) := by decide +kernel
theorem dX2_about_46 : decode cX2_about 46 = .ok (.aload_n 0, 1) := by decide +kernel
theorem dX2_about_47 : decode cX2_about 47 = .ok (.getfield 22, 3) := by decide +kernel
theorem dX2_about_50 : decode cX2_about 50 = .ok (.iload_n 1, 1) := by decide +kernel
theorem dX2_about_51 : decode cX2_about 51 = .ok (.iaload, 1) := by decide +kernel
theorem dX2_about_52 : decode cX2_about 52 = .ok (.ireturn, 1) := by decide +kernel
theorem dX2_about_53 : decode cX2_about 53 = .ok (.aload_n 0, 1) := by decide +kernel
theorem dX2_about_54 : decode cX2_about 54 = .ok (.getfield 25, 3) := by decide +kernel
theorem dX2_about_57 : decode cX2_about 57 = .ok (.iload_n 1, 1) := by decide +kernel
theorem dX2_about_58 : decode cX2_about 58 = .ok (.iaload, 1) := by decide +kernel
theorem dX2_about_59 : decode cX2_about 59 = .ok (.ireturn, 1) := by decide +kernel
theorem dX2_about_60 : decode cX2_about 60 = .ok (.aload_n 0, 1) := by decide +kernel
theorem dX2_about_61 : decode cX2_about 61 = .ok (.getfield 28, 3) := by decide +kernel
theorem dX2_about_64 : decode cX2_about 64 = .ok (.iload_n 1, 1) := by decide +kernel
theorem dX2_about_65 : decode cX2_about 65 = .ok (.iaload, 1) := by decide +kernel
theorem dX2_about_66 : decode cX2_about 66 = .ok (.ireturn, 1) := by decide +kernel
theorem dX2_isActive_0 : decode cX2_isActive 0 = .ok (.aload_n 0, 1) := by decide +kernel
theorem dX2_isActive_1 : decode cX2_isActive 1 = .ok (.getfield 19, 3) := by decide +kernel
theorem dX2_isActive_4 : decode cX2_isActive 4 = .ok (.iload_n 1, 1) := by decide +kernel
theorem dX2_isActive_5 : decode cX2_isActive 5 = .ok (.iaload, 1) := by decide +kernel
theorem dX2_isActive_6 : decode cX2_isActive 6 = .ok (.iload_n 2, 1) := by decide +kernel
theorem dX2_isActive_7 : decode cX2_isActive 7 = .ok (.if_icmp .ne 27, 3) := by decide +kernel
theorem dX2_isActive_10 : decode cX2_isActive 10 = .ok (.aload_n 0, 1) := by decide +kernel
theorem dX2_isActive_11 : decode cX2_isActive 11 = .ok (.getfield 22, 3) := by decide +kernel
theorem dX2_isActive_14 : decode cX2_isActive 14 = .ok (.iload_n 1, 1) := by decide +kernel
theorem dX2_isActive_15 : decode cX2_isActive 15 = .ok (.iaload, 1) := by decide +kernel
theorem dX2_isActive_16 : decode cX2_isActive 16 = .ok (.iload_n 3, 1) := by decide +kernel
theorem dX2_isActive_17 : decode cX2_isActive 17 = .ok (.if_icmp .gt 17, 3) := by decide +kernel
theorem dX2_isActive_20 : decode cX2_isActive 20 = .ok (.iload_n 3, 1) := by decide +kernel
theorem dX2_isActive_21 : decode cX2_isActive 21 = .ok (.aload_n 0, 1) := by decide +kernel
theorem dX2_isActive_22 : decode cX2_isActive 22 = .ok (.getfield 25, 3) := by decide +kernel
theorem dX2_isActive_25 : decode cX2_isActive 25 = .ok (.iload_n 1, 1) := by decide +kernel
theorem dX2_isActive_26 : decode cX2_isActive 26 = .ok (.iaload, 1) := by decide +kernel
theorem dX2_isActive_27 : decode cX2_isActive 27 = .ok (.if_icmp .gt 7, 3) := by decide +kernel
theorem dX2_isActive_30 : decode cX2_isActive 30 = .ok (.iconst 1, 1) := by decide +kernel
theorem dX2_isActive_31 : decode cX2_isActive 31 = .ok (.goto 4, 3) := by decide +kernel
theorem dX2_isActive_34 : decode cX2_isActive 34 = .ok (.iconst 0, 1) := by decide +kernel
theorem dX2_isActive_35 : decode cX2_isActive 35 = .ok (.ireturn, 1) := by decide +kernel
theorem dX2_countFor_0 : decode cX2_countFor 0 = .ok (.iconst 0, 1) := by decide +kernel
theorem dX2_countFor_1 : decode cX2_countFor 1 = .ok (.istore_n 2, 1) := by decide +kernel
theorem dX2_countFor_2 : decode cX2_countFor 2 = .ok (.iconst 0, 1) := by decide +kernel
theorem dX2_countFor_3 : decode cX2_countFor 3 = .ok (.istore_n 3, 1) := by decide +kernel
theorem dX2_countFor_4 : decode cX2_countFor 4 = .ok (.iload_n 3, 1) := by decide +kernel
theorem dX2_countFor_5 : decode cX2_countFor 5 = .ok (.aload_n 0, 1) := by decide +kernel
theorem dX2_countFor_6 : decode cX2_countFor 6 = .ok (.getfield 9, 3) := by decide +kernel
theorem dX2_countFor_9 : decode cX2_countFor 9 = .ok (.if_icmp .ge 22, 3) := by decide +kernel
theorem dX2_countFor_12 : decode cX2_countFor 12 = .ok (.aload_n 0, 1) := by decide +kernel
theorem dX2_countFor_13 : decode cX2_countFor 13 = .ok (.getfield 19, 3) := by decide +kernel
theorem dX2_countFor_16 : decode cX2_countFor 16 = .ok (.iload_n 3, 1) := by decide +kernel
theorem dX2_countFor_17 : decode cX2_countFor 17 = .ok (.iaload, 1) := by decide +kernel
theorem dX2_countFor_18 : decode cX2_countFor 18 = .ok (.iload_n 1, 1) := by decide +kernel
theorem dX2_countFor_19 : decode cX2_countFor 19 = .ok (.if_icmp .ne 6, 3) := by decide +kernel
theorem dX2_countFor_22 : decode cX2_countFor 22 = .ok (.iinc 2 1, 3) := by decide +kernel
theorem dX2_countFor_25 : decode cX2_countFor 25 = .ok (.iinc 3 1, 3) := by decide +kernel
theorem dX2_countFor_28 : decode cX2_countFor 28 = .ok (.goto (-24), 3) := by decide +kernel
theorem dX2_countFor_31 : decode cX2_countFor 31 = .ok (.iload_n 2, 1) := by decide +kernel
theorem dX2_countFor_32 : decode cX2_countFor 32 = .ok (.ireturn, 1) := by decide +kernel
set_option maxRecDepth 20000 in
theorem ggX2_activeFeatures_X2_isActive : GoodIn wsX2_activeFeatures wsX2_isActive := goodIn_r _ [7, 8, 9, 10, 11, 12, 13, 14, 15, 16] (by decide +kernel) (by decide +kernel)
set_option maxRecDepth 20000 in
theorem gX2_activeFeatures_X2_isActive : GoodIn wsX2_activeFeatures (wsV RX2 37 RX2 yX2_isActive wsX2_isActive) := goodIn_app (goodIn_of _ (by decide +kernel)) ggX2_activeFeatures_X2_isActive
theorem dX2_activeFeatures_0 : decode cX2_activeFeatures 0 = .ok (.iconst 0, 1) := by decide +kernel
theorem dX2_activeFeatures_1 : decode cX2_activeFeatures 1 = .ok (.istore_n 3, 1) := by decide +kernel
theorem dX2_activeFeatures_2 : decode cX2_activeFeatures 2 = .ok (.iconst 0, 1) := by decide +kernel
theorem dX2_activeFeatures_3 : decode cX2_activeFeatures 3 = .ok (.istore 4, 2) := by decide +kernel
theorem dX2_activeFeatures_5 : decode cX2_activeFeatures 5 = .ok (.iload 4, 2) := by decide +kernel
theorem dX2_activeFeatures_7 : decode cX2_activeFeatures 7 = .ok (.aload_n 0, 1) := by decide +kernel
theorem dX2_activeFeatures_8 : decode cX2_activeFeatures 8 = .ok (.getfield 9, 3) := by decide +kernel
theorem dX2_activeFeatures_11 : decode cX2_activeFeatures 11 = .ok (.if_icmp .ge 32, 3) := by decide +kernel
theorem dX2_activeFeatures_14 : decode cX2_activeFeatures 14 = .ok (.aload_n 0, 1) := by decide +kernel
theorem dX2_activeFeatures_15 : decode cX2_activeFeatures 15 = .ok (.iload 4, 2) := by decide +kernel
theorem dX2_activeFeatures_17 : decode cX2_activeFeatures 17 = .ok (.iload_n 1, 1) := by decide +kernel
theorem dX2_activeFeatures_18 : decode cX2_activeFeatures 18 = .ok (.iload_n 2, 1) := by decide +kernel
theorem dX2_activeFeatures_19 : decode cX2_activeFeatures 19 = .ok (.invokevirtual 37, 3) := by decide +kernel
theorem dX2_activeFeatures_22 : decode cX2_activeFeatures 22 = .ok (.ifCond .eq 15, 3) := by decide +kernel
theorem dX2_activeFeatures_25 : decode cX2_activeFeatures 25 = .ok (.iload_n 3, 1) := by decide +kernel
theorem dX2_activeFeatures_26 : decode cX2_activeFeatures 26 = .ok (.iconst 1, 1) := by decide +kernel
theorem dX2_activeFeatures_27 : decode cX2_activeFeatures 27 = .ok (.aload_n 0, 1) := by decide +kernel
theorem dX2_activeFeatures_28 : decode cX2_activeFeatures 28 = .ok (.getfield 15, 3) := by decide +kernel
theorem dX2_activeFeatures_31 : decode cX2_activeFeatures 31 = .ok (.iload 4, 2) := by decide +kernel
theorem dX2_activeFeatures_33 : decode cX2_activeFeatures 33 = .ok (.iaload, 1) := by decide +kernel
theorem dX2_activeFeatures_34 : decode cX2_activeFeatures 34 = .ok (.ishl, 1) := by decide +kernel
theorem dX2_activeFeatures_35 : decode cX2_activeFeatures 35 = .ok (.ior, 1) := by decide +kernel
theorem dX2_activeFeatures_36 : decode cX2_activeFeatures 36 = .ok (.istore_n 3, 1) := by decide +kernel
theorem dX2_activeFeatures_37 : decode cX2_activeFeatures 37 = .ok (.iinc 4 1, 3) := by decide +kernel
theorem dX2_activeFeatures_40 : decode cX2_activeFeatures 40 = .ok (.goto (-35), 3) := by decide +kernel
theorem dX2_activeFeatures_43 : decode cX2_activeFeatures 43 = .ok (.iload_n 3, 1) := by decide +kernel
theorem dX2_activeFeatures_44 : decode cX2_activeFeatures 44 = .ok (.ireturn, 1) := by decide +kernel
set_option maxRecDepth 20000 in
theorem ggX2_lowestPrice_X2_isActive : GoodIn wsX2_lowestPrice wsX2_isActive := goodIn_r _ [8, 9, 10, 11, 12, 13, 14, 15, 16, 17] (by decide +kernel) (by decide +kernel)
set_option maxRecDepth 20000 in
theorem gX2_lowestPrice_X2_isActive : GoodIn wsX2_lowestPrice (wsV RX2 37 RX2 yX2_isActive wsX2_isActive) := goodIn_app (goodIn_of _ (by decide +kernel)) ggX2_lowestPrice_X2_isActive
theorem dX2_lowestPrice_0 : decode cX2_lowestPrice 0 = .ok (.iconst 0, 1) := by decide +kernel
theorem dX2_lowestPrice_1 : decode cX2_lowestPrice 1 = .ok (.istore 4, 2) := by decide +kernel
theorem dX2_lowestPrice_3 : decode cX2_lowestPrice 3 = .ok (.iconst 0, 1) := by decide +kernel
theorem dX2_lowestPrice_4 : decode cX2_lowestPrice 4 = .ok (.istore 5, 2) := by decide +kernel
theorem dX2_lowestPrice_6 : decode cX2_lowestPrice 6 = .ok (.iload 5, 2) := by decide +kernel
theorem dX2_lowestPrice_8 : decode cX2_lowestPrice 8 = .ok (.aload_n 0, 1) := by decide +kernel
theorem dX2_lowestPrice_9 : decode cX2_lowestPrice 9 = .ok (.getfield 9, 3) := by decide +kernel
theorem dX2_lowestPrice_12 : decode cX2_lowestPrice 12 = .ok (.if_icmp .ge 57, 3) := by decide +kernel
theorem dX2_lowestPrice_15 : decode cX2_lowestPrice 15 = .ok (.aload_n 0, 1) := by decide +kernel
theorem dX2_lowestPrice_16 : decode cX2_lowestPrice 16 = .ok (.getfield 15, 3) := by decide +kernel
theorem dX2_lowestPrice_19 : decode cX2_lowestPrice 19 = .ok (.iload 5, 2) := by decide +kernel
theorem dX2_lowestPrice_21 : decode cX2_lowestPrice 21 = .ok (.iaload, 1) := by decide +kernel
theorem dX2_lowestPrice_22 : decode cX2_lowestPrice 22 = .ok (.iload_n 1, 1) := by decide +kernel
theorem dX2_lowestPrice_23 : decode cX2_lowestPrice 23 = .ok (.if_icmp .ne 40, 3) := by decide +kernel
theorem dX2_lowestPrice_26 : decode cX2_lowestPrice 26 = .ok (.aload_n 0, 1) := by decide +kernel
theorem dX2_lowestPrice_27 : decode cX2_lowestPrice 27 = .ok (.iload 5, 2) := by decide +kernel
theorem dX2_lowestPrice_29 : decode cX2_lowestPrice 29 = .ok (.iload_n 2, 1) := by decide +kernel
theorem dX2_lowestPrice_30 : decode cX2_lowestPrice 30 = .ok (.iload_n 3, 1) := by decide +kernel
theorem dX2_lowestPrice_31 : decode cX2_lowestPrice 31 = .ok (.invokevirtual 37, 3) := by decide +kernel
theorem dX2_lowestPrice_34 : decode cX2_lowestPrice 34 = .ok (.ifCond .eq 29, 3) := by decide +kernel
theorem dX2_lowestPrice_37 : decode cX2_lowestPrice 37 = .ok (.iload 4, 2) := by decide +kernel
theorem dX2_lowestPrice_39 : decode cX2_lowestPrice 39 = .ok (.ifCond .eq 15, 3) := by decide +kernel
theorem dX2_lowestPrice_42 : decode cX2_lowestPrice 42 = .ok (.aload_n 0, 1) := by decide +kernel
theorem dX2_lowestPrice_43 : decode cX2_lowestPrice 43 = .ok (.getfield 28, 3) := by decide +kernel
theorem dX2_lowestPrice_46 : decode cX2_lowestPrice 46 = .ok (.iload 5, 2) := by decide +kernel
theorem dX2_lowestPrice_48 : decode cX2_lowestPrice 48 = .ok (.iaload, 1) := by decide +kernel
theorem dX2_lowestPrice_49 : decode cX2_lowestPrice 49 = .ok (.iload 4, 2) := by decide +kernel
theorem dX2_lowestPrice_51 : decode cX2_lowestPrice 51 = .ok (.if_icmp .ge 12, 3) := by decide +kernel
theorem dX2_lowestPrice_54 : decode cX2_lowestPrice 54 = .ok (.aload_n 0, 1) := by decide +kernel
theorem dX2_lowestPrice_55 : decode cX2_lowestPrice 55 = .ok (.getfield 28, 3) := by decide +kernel
theorem dX2_lowestPrice_58 : decode cX2_lowestPrice 58 = .ok (.iload 5, 2) := by decide +kernel
theorem dX2_lowestPrice_60 : decode cX2_lowestPrice 60 = .ok (.iaload, 1) := by decide +kernel
theorem dX2_lowestPrice_61 : decode cX2_lowestPrice 61 = .ok (.istore 4, 2) := by decide +kernel
theorem dX2_lowestPrice_63 : decode cX2_lowestPrice 63 = .ok (.iinc 5 1, 3) := by decide +kernel
theorem dX2_lowestPrice_66 : decode cX2_lowestPrice 66 = .ok (.goto (-60), 3) := by decide +kernel
theorem dX2_lowestPrice_69 : decode cX2_lowestPrice 69 = .ok (.iload 4, 2) := by decide +kernel
theorem dX2_lowestPrice_71 : decode cX2_lowestPrice 71 = .ok (.ireturn, 1) := by decide +kernel
theorem dX3_init_0 : decode cX3_init 0 = .ok (.aload_n 0, 1) := by decide +kernel
theorem dX3_init_1 : decode cX3_init 1 = .ok (.invokespecial 3, 3) := by decide +kernel
theorem dX3_init_4 : decode cX3_init 4 = .ok (.aload_n 0, 1) := by decide +kernel
theorem dX3_init_5 : decode cX3_init 5 = .ok (.iconst 0, 1) := by decide +kernel
theorem dX3_init_6 : decode cX3_init 6 = .ok (.putfield 9, 3) := by decide +kernel
theorem dX3_init_9 : decode cX3_init 9 = .ok (.aload_n 0, 1) := by decide +kernel
theorem dX3_init_10 : decode cX3_init 10 = .ok (.bipush 10, 2) := by decide +kernel
theorem dX3_init_12 : decode cX3_init 12 = .ok (.newarray .int, 2) := by decide +kernel
theorem dX3_init_14 : decode cX3_init 14 = .ok (.putfield 15, 3) := by decide +kernel
theorem dX3_init_17 : decode cX3_init 17 = .ok (.aload_n 0, 1) := by decide +kernel
theorem dX3_init_18 : decode cX3_init 18 = .ok (.bipush 10, 2) := by decide +kernel
theorem dX3_init_20 : decode cX3_init 20 = .ok (.newarray .int, 2) := by decide +kernel
theorem dX3_init_22 : decode cX3_init 22 = .ok (.putfield 19, 3) := by decide +kernel
theorem dX3_init_25 : decode cX3_init 25 = .ok (.aload_n 0, 1) := by decide +kernel
theorem dX3_init_26 : decode cX3_init 26 = .ok (.bipush 10, 2) := by decide +kernel
theorem dX3_init_28 : decode cX3_init 28 = .ok (.newarray .int, 2) := by decide +kernel
theorem dX3_init_30 : decode cX3_init 30 = .ok (.putfield 22, 3) := by decide +kernel
theorem dX3_init_33 : decode cX3_init 33 = .ok (.aload_n 0, 1) := by decide +kernel
theorem dX3_init_34 : decode cX3_init 34 = .ok (.bipush 10, 2) := by decide +kernel
theorem dX3_init_36 : decode cX3_init 36 = .ok (.newarray .int, 2) := by decide +kernel
theorem dX3_init_38 : decode cX3_init 38 = .ok (.putfield 25, 3) := by decide +kernel
theorem dX3_init_41 : decode cX3_init 41 = .ok (.aload_n 0, 1) := by decide +kernel
theorem dX3_init_42 : decode cX3_init 42 = .ok (.bipush 10, 2) := by decide +kernel
theorem dX3_init_44 : decode cX3_init 44 = .ok (.newarray .int, 2) := by decide +kernel
theorem dX3_init_46 : decode cX3_init 46 = .ok (.putfield 28, 3) := by decide +kernel
theorem dX3_init_49 : decode cX3_init 49 = .ok (.aload_n 0, 1) := by decide +kernel
theorem dX3_init_50 : decode cX3_init 50 = .ok (.bipush 10, 2) := by decide +kernel
theorem dX3_init_52 : decode cX3_init 52 = .ok (.newarray .int, 2) := by decide +kernel
theorem dX3_init_54 : decode cX3_init 54 = .ok (.putfield 31, 3) := by decide +kernel
theorem dX3_init_57 : decode cX3_init 57 = .ok (.return_, 1) := by decide +kernel
theorem dX3_copy_0 : decode cX3_copy 0 = .ok (.aload_n 0, 1) := by decide +kernel
theorem dX3_copy_1 : decode cX3_copy 1 = .ok (.aload_n 1, 1) := by decide +kernel
theorem dX3_copy_2 : decode cX3_copy 2 = .ok (.getfield 9, 3) := by decide +kernel
theorem dX3_copy_5 : decode cX3_copy 5 = .ok (.putfield 9, 3) := by decide +kernel
theorem dX3_copy_8 : decode cX3_copy 8 = .ok (.aload_n 1, 1) := by decide +kernel
theorem dX3_copy_9 : decode cX3_copy 9 = .ok (.getfield 15, 3) := by decide +kernel
theorem dX3_copy_12 : decode cX3_copy 12 = .ok (.iconst 0, 1) := by decide +kernel
theorem dX3_copy_13 : decode cX3_copy 13 = .ok (.aload_n 0, 1) := by decide +kernel
theorem dX3_copy_14 : decode cX3_copy 14 = .ok (.getfield 15, 3) := by decide +kernel
theorem dX3_copy_17 : decode cX3_copy 17 = .ok (.iconst 0, 1) := by decide +kernel
theorem dX3_copy_18 : decode cX3_copy 18 = .ok (.bipush 10, 2) := by decide +kernel
theorem dX3_copy_20 : decode cX3_copy 20 = .ok (.invokestatic 34, 3) := by decide +kernel
theorem dX3_copy_23 : decode cX3_copy 23 = .ok (.aload_n 1, 1) := by decide +kernel
theorem dX3_copy_24 : decode cX3_copy 24 = .ok (.getfield 19, 3) := by decide +kernel
theorem dX3_copy_27 : decode cX3_copy 27 = .ok (.iconst 0, 1) := by decide +kernel
theorem dX3_copy_28 : decode cX3_copy 28 = .ok (.aload_n 0, 1) := by decide +kernel
theorem dX3_copy_29 : decode cX3_copy 29 = .ok (.getfield 19, 3) := by decide +kernel
theorem dX3_copy_32 : decode cX3_copy 32 = .ok (.iconst 0, 1) := by decide +kernel
theorem dX3_copy_33 : decode cX3_copy 33 = .ok (.bipush 10, 2) := by decide +kernel
theorem dX3_copy_35 : decode cX3_copy 35 = .ok (.invokestatic 34, 3) := by decide +kernel
theorem dX3_copy_38 : decode cX3_copy 38 = .ok (.aload_n 1, 1) := by decide +kernel
theorem dX3_copy_39 : decode cX3_copy 39 = .ok (.getfield 22, 3) := by decide +kernel
theorem dX3_copy_42 : decode cX3_copy 42 = .ok (.iconst 0, 1) := by decide +kernel
theorem dX3_copy_43 : decode cX3_copy 43 = .ok (.aload_n 0, 1) := by decide +kernel
theorem dX3_copy_44 : decode cX3_copy 44 = .ok (.getfield 22, 3) := by decide +kernel
theorem dX3_copy_47 : decode cX3_copy 47 = .ok (.iconst 0, 1) := by decide +kernel
theorem dX3_copy_48 : decode cX3_copy 48 = .ok (.bipush 10, 2) := by decide +kernel
theorem dX3_copy_50 : decode cX3_copy 50 = .ok (.invokestatic 34, 3) := by decide +kernel
theorem dX3_copy_53 : decode cX3_copy 53 = .ok (.aload_n 1, 1) := by decide +kernel
theorem dX3_copy_54 : decode cX3_copy 54 = .ok (.getfield 25, 3) := by decide +kernel
theorem dX3_copy_57 : decode cX3_copy 57 = .ok (.iconst 0, 1) := by decide +kernel
theorem dX3_copy_58 : decode cX3_copy 58 = .ok (.aload_n 0, 1) := by decide +kernel
theorem dX3_copy_59 : decode cX3_copy 59 = .ok (.getfield 25, 3) := by decide +kernel
theorem dX3_copy_62 : decode cX3_copy 62 = .ok (.iconst 0, 1) := by decide +kernel
theorem dX3_copy_63 : decode cX3_copy 63 = .ok (.bipush 10, 2) := by decide +kernel
theorem dX3_copy_65 : decode cX3_copy 65 = .ok (.invokestatic 34, 3) := by decide +kernel
theorem dX3_copy_68 : decode cX3_copy 68 = .ok (.aload_n 1, 1) := by decide +kernel
theorem dX3_copy_69 : decode cX3_copy 69 = .ok (.getfield 28, 3) := by decide +kernel
theorem dX3_copy_72 : decode cX3_copy 72 = .ok (.iconst 0, 1) := by decide +kernel
theorem dX3_copy_73 : decode cX3_copy 73 = .ok (.aload_n 0, 1) := by decide +kernel
theorem dX3_copy_74 : decode cX3_copy 74 = .ok (.getfield 28, 3) := by decide +kernel
theorem dX3_copy_77 : decode cX3_copy 77 = .ok (.iconst 0, 1) := by decide +kernel
theorem dX3_copy_78 : decode cX3_copy 78 = .ok (.bipush 10, 2) := by decide +kernel
theorem dX3_copy_80 : decode cX3_copy 80 = .ok (.invokestatic 34, 3) := by decide +kernel
theorem dX3_copy_83 : decode cX3_copy 83 = .ok (.aload_n 1, 1) := by decide +kernel
theorem dX3_copy_84 : decode cX3_copy 84 = .ok (.getfield 31, 3) := by decide +kernel
theorem dX3_copy_87 : decode cX3_copy 87 = .ok (.iconst 0, 1) := by decide +kernel
theorem dX3_copy_88 : decode cX3_copy 88 = .ok (.aload_n 0, 1) := by decide +kernel
theorem dX3_copy_89 : decode cX3_copy 89 = .ok (.getfield 31, 3) := by decide +kernel
theorem dX3_copy_92 : decode cX3_copy 92 = .ok (.iconst 0, 1) := by decide +kernel
theorem dX3_copy_93 : decode cX3_copy 93 = .ok (.bipush 10, 2) := by decide +kernel
theorem dX3_copy_95 : decode cX3_copy 95 = .ok (.invokestatic 34, 3) := by decide +kernel
theorem dX3_copy_98 : decode cX3_copy 98 = .ok (.return_, 1) := by decide +kernel
set_option maxRecDepth 20000 in
theorem ggX3_addRow_X3_setPledge : GoodIn wsX3_addRow wsX3_setPledge := goodIn_r _ [10, 11, 12, 13, 14, 15, 16, 17, 18, 19] (by decide +kernel) (by decide +kernel)
set_option maxRecDepth 20000 in
theorem gX3_addRow_X3_setPledge : GoodIn wsX3_addRow (wsV RX3 40 RX3 yX3_setPledge wsX3_setPledge) := goodIn_app (goodIn_of _ (by decide +kernel)) ggX3_addRow_X3_setPledge
theorem dX3_addRow_0 : decode cX3_addRow 0 = .ok (.aload_n 0, 1) := by decide +kernel
theorem dX3_addRow_1 : decode cX3_addRow 1 = .ok (.getfield 9, 3) := by decide +kernel
theorem dX3_addRow_4 : decode cX3_addRow 4 = .ok (.istore_n 3, 1) := by decide +kernel
theorem dX3_addRow_5 : decode cX3_addRow 5 = .ok (.aload_n 0, 1) := by decide +kernel
theorem dX3_addRow_6 : decode cX3_addRow 6 = .ok (.getfield 15, 3) := by decide +kernel
theorem dX3_addRow_9 : decode cX3_addRow 9 = .ok (.iload_n 3, 1) := by decide +kernel
theorem dX3_addRow_10 : decode cX3_addRow 10 = .ok (.iload_n 1, 1) := by decide +kernel
theorem dX3_addRow_11 : decode cX3_addRow 11 = .ok (.iastore, 1) := by decide +kernel
theorem dX3_addRow_12 : decode cX3_addRow 12 = .ok (.aload_n 0, 1) := by decide +kernel
theorem dX3_addRow_13 : decode cX3_addRow 13 = .ok (.getfield 19, 3) := by decide +kernel
theorem dX3_addRow_16 : decode cX3_addRow 16 = .ok (.iload_n 3, 1) := by decide +kernel
theorem dX3_addRow_17 : decode cX3_addRow 17 = .ok (.iload_n 2, 1) := by decide +kernel
theorem dX3_addRow_18 : decode cX3_addRow 18 = .ok (.iastore, 1) := by decide +kernel
theorem dX3_addRow_19 : decode cX3_addRow 19 = .ok (.aload_n 0, 1) := by decide +kernel
theorem dX3_addRow_20 : decode cX3_addRow 20 = .ok (.iload_n 3, 1) := by decide +kernel
theorem dX3_addRow_21 : decode cX3_addRow 21 = .ok (.iconst (-1), 1) := by decide +kernel
theorem dX3_addRow_22 : decode cX3_addRow 22 = .ok (.iconst (-1), 1) := by decide +kernel
theorem dX3_addRow_23 : decode cX3_addRow 23 = .ok (.invokevirtual 40, 3) := by decide +kernel
theorem dX3_addRow_26 : decode cX3_addRow 26 = .ok (.aload_n 0, 1) := by decide +kernel
theorem dX3_addRow_27 : decode cX3_addRow 27 = .ok (.getfield 28, 3) := by decide +kernel
theorem dX3_addRow_30 : decode cX3_addRow 30 = .ok (.iload_n 3, 1) := by decide +kernel
theorem dX3_addRow_31 : decode cX3_addRow 31 = .ok (.iconst 0, 1) := by decide +kernel
theorem dX3_addRow_32 : decode cX3_addRow 32 = .ok (.iastore, 1) := by decide +kernel
theorem dX3_addRow_33 : decode cX3_addRow 33 = .ok (.aload_n 0, 1) := by decide +kernel
theorem dX3_addRow_34 : decode cX3_addRow 34 = .ok (.getfield 31, 3) := by decide +kernel
theorem dX3_addRow_37 : decode cX3_addRow 37 = .ok (.iload_n 3, 1) := by decide +kernel
theorem dX3_addRow_38 : decode cX3_addRow 38 = .ok (.iconst 0, 1) := by decide +kernel
theorem dX3_addRow_39 : decode cX3_addRow 39 = .ok (.iastore, 1) := by decide +kernel
theorem dX3_addRow_40 : decode cX3_addRow 40 = .ok (.aload_n 0, 1) := by decide +kernel
theorem dX3_addRow_41 : decode cX3_addRow 41 = .ok (.dup, 1) := by decide +kernel
theorem dX3_addRow_42 : decode cX3_addRow 42 = .ok (.getfield 9, 3) := by decide +kernel
theorem dX3_addRow_45 : decode cX3_addRow 45 = .ok (.iconst 1, 1) := by decide +kernel
theorem dX3_addRow_46 : decode cX3_addRow 46 = .ok (.iadd, 1) := by decide +kernel
theorem dX3_addRow_47 : decode cX3_addRow 47 = .ok (.putfield 9, 3) := by decide +kernel
theorem dX3_addRow_50 : decode cX3_addRow 50 = .ok (.iload_n 3, 1) := by decide +kernel
theorem dX3_addRow_51 : decode cX3_addRow 51 = .ok (.ireturn, 1) := by decide +kernel
theorem dX3_setPledge_0 : decode cX3_setPledge 0 = .ok (.aload_n 0, 1) := by decide +kernel
theorem dX3_setPledge_1 : decode cX3_setPledge 1 = .ok (.getfield 22, 3) := by decide +kernel
theorem dX3_setPledge_4 : decode cX3_setPledge 4 = .ok (.iload_n 1, 1) := by decide +kernel
theorem dX3_setPledge_5 : decode cX3_setPledge 5 = .ok (.iload_n 2, 1) := by decide +kernel
theorem dX3_setPledge_6 : decode cX3_setPledge 6 = .ok (.iastore, 1) := by decide +kernel
theorem dX3_setPledge_7 : decode cX3_setPledge 7 = .ok (.aload_n 0, 1) := by decide +kernel
theorem dX3_setPledge_8 : decode cX3_setPledge 8 = .ok (.getfield 25, 3) := by decide +kernel
theorem dX3_setPledge_11 : decode cX3_setPledge 11 = .ok (.iload_n 1, 1) := by decide +kernel
theorem dX3_setPledge_12 : decode cX3_setPledge 12 = .ok (.iload_n 3, 1) := by decide +kernel
theorem dX3_setPledge_13 : decode cX3_setPledge 13 = .ok (.iastore, 1) := by decide +kernel
theorem dX3_setPledge_14 : decode cX3_setPledge 14 = .ok (.return_, 1) := by decide +kernel
theorem dX3_isPledged_0 : decode cX3_isPledged 0 = .ok (.aload_n 0, 1) := by decide +kernel
theorem dX3_isPledged_1 : decode cX3_isPledged 1 = .ok (.getfield 22, 3) := by decide +kernel
theorem dX3_isPledged_4 : decode cX3_isPledged 4 = .ok (.iload_n 1, 1) := by decide +kernel
theorem dX3_isPledged_5 : decode cX3_isPledged 5 = .ok (.iaload, 1) := by decide +kernel
theorem dX3_isPledged_6 : decode cX3_isPledged 6 = .ok (.iconst (-1), 1) := by decide +kernel
theorem dX3_isPledged_7 : decode cX3_isPledged 7 = .ok (.if_icmp .eq 7, 3) := by decide +kernel
theorem dX3_isPledged_10 : decode cX3_isPledged 10 = .ok (.iconst 1, 1) := by decide +kernel
theorem dX3_isPledged_11 : decode cX3_isPledged 11 = .ok (.goto 4, 3) := by decide +kernel
theorem dX3_isPledged_14 : decode cX3_isPledged 14 = .ok (.iconst 0, 1) := by decide +kernel
theorem dX3_isPledged_15 : decode cX3_isPledged 15 = .ok (.ireturn, 1) := by decide +kernel
theorem dX3_letSlip_0 : decode cX3_letSlip 0 = .ok (.aload_n 0, 1) := by decide +kernel
theorem dX3_letSlip_1 : decode cX3_letSlip 1 = .ok (.getfield 25, 3) := by decide +kernel
theorem dX3_letSlip_4 : decode cX3_letSlip 4 = .ok (.iload_n 1, 1) := by decide +kernel
theorem dX3_letSlip_5 : decode cX3_letSlip 5 = .ok (.dup2, 1) := by decide +kernel
theorem dX3_letSlip_6 : decode cX3_letSlip 6 = .ok (.iaload, 1) := by decide +kernel
theorem dX3_letSlip_7 : decode cX3_letSlip 7 = .ok (.iload_n 2, 1) := by decide +kernel
theorem dX3_letSlip_8 : decode cX3_letSlip 8 = .ok (.iadd, 1) := by decide +kernel
theorem dX3_letSlip_9 : decode cX3_letSlip 9 = .ok (.iastore, 1) := by decide +kernel
theorem dX3_letSlip_10 : decode cX3_letSlip 10 = .ok (.aload_n 0, 1) := by decide +kernel
theorem dX3_letSlip_11 : decode cX3_letSlip 11 = .ok (.getfield 28, 3) := by decide +kernel
theorem dX3_letSlip_14 : decode cX3_letSlip 14 = .ok (.iload_n 1, 1) := by decide +kernel
theorem dX3_letSlip_15 : decode cX3_letSlip 15 = .ok (.dup2, 1) := by decide +kernel
theorem dX3_letSlip_16 : decode cX3_letSlip 16 = .ok (.iaload, 1) := by decide +kernel
theorem dX3_letSlip_17 : decode cX3_letSlip 17 = .ok (.iconst 1, 1) := by decide +kernel
theorem dX3_letSlip_18 : decode cX3_letSlip 18 = .ok (.iadd, 1) := by decide +kernel
theorem dX3_letSlip_19 : decode cX3_letSlip 19 = .ok (.iastore, 1) := by decide +kernel
theorem dX3_letSlip_20 : decode cX3_letSlip 20 = .ok (.aload_n 0, 1) := by decide +kernel
theorem dX3_letSlip_21 : decode cX3_letSlip 21 = .ok (.getfield 31, 3) := by decide +kernel
theorem dX3_letSlip_24 : decode cX3_letSlip 24 = .ok (.iload_n 1, 1) := by decide +kernel
theorem dX3_letSlip_25 : decode cX3_letSlip 25 = .ok (.dup2, 1) := by decide +kernel
theorem dX3_letSlip_26 : decode cX3_letSlip 26 = .ok (.iaload, 1) := by decide +kernel
theorem dX3_letSlip_27 : decode cX3_letSlip 27 = .ok (.iload_n 2, 1) := by decide +kernel
theorem dX3_letSlip_28 : decode cX3_letSlip 28 = .ok (.iadd, 1) := by decide +kernel
theorem dX3_letSlip_29 : decode cX3_letSlip 29 = .ok (.iastore, 1) := by decide +kernel
theorem dX3_letSlip_30 : decode cX3_letSlip 30 = .ok (.return_, 1) := by decide +kernel
set_option maxRecDepth 20000 in
theorem ggX3_placeOn_X3_isPledged : GoodIn wsX3_placeOn wsX3_isPledged := goodIn_r _ [8, 2, 9, 10, 11, 12, 13, 14, 15] (by decide +kernel) (by decide +kernel)
set_option maxRecDepth 20000 in
theorem gX3_placeOn_X3_isPledged : GoodIn wsX3_placeOn (wsV RX3 44 RX3 yX3_isPledged wsX3_isPledged) := goodIn_app (goodIn_of _ (by decide +kernel)) ggX3_placeOn_X3_isPledged
theorem dX3_placeOn_0 : decode cX3_placeOn 0 = .ok (.aload_n 0, 1) := by decide +kernel
theorem dX3_placeOn_1 : decode cX3_placeOn 1 = .ok (.iload_n 1, 1) := by decide +kernel
theorem dX3_placeOn_2 : decode cX3_placeOn 2 = .ok (.invokevirtual 44, 3) := by decide +kernel
theorem dX3_placeOn_5 : decode cX3_placeOn 5 = .ok (.ifCond .eq 22, 3) := by decide +kernel
theorem dX3_placeOn_8 : decode cX3_placeOn 8 = .ok (.aload_n 0, 1) := by decide +kernel
theorem dX3_placeOn_9 : decode cX3_placeOn 9 = .ok (.getfield 25, 3) := by decide +kernel
theorem dX3_placeOn_12 : decode cX3_placeOn 12 = .ok (.iload_n 1, 1) := by decide +kernel
theorem dX3_placeOn_13 : decode cX3_placeOn 13 = .ok (.iaload, 1) := by decide +kernel
theorem dX3_placeOn_14 : decode cX3_placeOn 14 = .ok (.iload_n 2, 1) := by decide +kernel
theorem dX3_placeOn_15 : decode cX3_placeOn 15 = .ok (.if_icmp .gt 12, 3) := by decide +kernel
theorem dX3_placeOn_18 : decode cX3_placeOn 18 = .ok (.aload_n 0, 1) := by decide +kernel
theorem dX3_placeOn_19 : decode cX3_placeOn 19 = .ok (.getfield 22, 3) := by decide +kernel
theorem dX3_placeOn_22 : decode cX3_placeOn 22 = .ok (.iload_n 1, 1) := by decide +kernel
theorem dX3_placeOn_23 : decode cX3_placeOn 23 = .ok (.iaload, 1) := by decide +kernel
theorem dX3_placeOn_24 : decode cX3_placeOn 24 = .ok (.goto 9, 3) := by decide +kernel
theorem dX3_placeOn_27 : decode cX3_placeOn 27 = .ok (.aload_n 0, 1) := by decide +kernel
theorem dX3_placeOn_28 : decode cX3_placeOn 28 = .ok (.getfield 15, 3) := by decide +kernel
theorem dX3_placeOn_31 : decode cX3_placeOn 31 = .ok (.iload_n 1, 1) := by decide +kernel
theorem dX3_placeOn_32 : decode cX3_placeOn 32 = .ok (.iaload, 1) := by decide +kernel
theorem dX3_placeOn_33 : decode cX3_placeOn 33 = .ok (.ireturn, 1) := by decide +kernel
theorem dX3_about_0 : decode cX3_about 0 = .ok (.iload_n 2, 1) := by decide +kernel
theorem dX3_about_1 : decode cX3_about 1 = .ok (.tableswitch 70 0 4 #[35, 42, 49, 56, 63], 35) := by decide +kernel
theorem dX3_about_36 : decode cX3_about 36 = .ok (.aload_n 0, 1) := by decide +kernel
theorem dX3_about_37 : decode cX3_about 37 = .ok (.getfield 15, 3) := by decide +kernel
theorem dX3_about_40 : decode cX3_about 40 = .ok (.iload_n 1, 1) := by decide +kernel
theorem dX3_about_41 : decode cX3_about 41 = .ok (.iaload, 1) := by decide +kernel
theorem dX3_about_42 : decode cX3_about 42 = .ok (.ireturn, 1) := by decide +kernel
theorem dX3_about_43 : decode cX3_about 43 = .ok (.aload_n 0, 1) := by decide +kernel
theorem dX3_about_44 : decode cX3_about 44 = .ok (.getfield 19, 3) := by decide +kernel
theorem dX3_about_47 : decode cX3_about 47 = .ok (.iload_n 1, 1) := by decide +kernel
theorem dX3_about_48 : decode cX3_about 48 = .ok (.iaload, 1) := by decide +kernel
theorem dX3_about_49 : decode cX3_about 49 = .ok (.ireturn, 1) := by decide +kernel
theorem dX3_about_50 : decode cX3_about 50 = .ok (.aload_n 0, 1) := by decide +kernel
theorem dX3_about_51 : decode cX3_about 51 = .ok (.getfield 22, 3) := by decide +kernel
theorem dX3_about_54 : decode cX3_about 54 = .ok (.iload_n 1, 1) := by decide +kernel
theorem dX3_about_55 : decode cX3_about 55 = .ok (.iaload, 1) := by decide +kernel
theorem dX3_about_56 : decode cX3_about 56 = .ok (.ireturn, 1) := by decide +kernel
theorem dX3_about_57 : decode cX3_about 57 = .ok (.aload_n 0, 1) := by decide +kernel
theorem dX3_about_58 : decode cX3_about 58 = .ok (.getfield 25, 3) := by decide +kernel
theorem dX3_about_61 : decode cX3_about 61 = .ok (.iload_n 1, 1) := by decide +kernel
theorem dX3_about_62 : decode cX3_about 62 = .ok (.iaload, 1) := by decide +kernel
theorem dX3_about_63 : decode cX3_about 63 = .ok (.ireturn, 1) := by decide +kernel
theorem dX3_about_64 : decode cX3_about 64 = .ok (.aload_n 0, 1) := by decide +kernel
theorem dX3_about_65 : decode cX3_about 65 = .ok (.getfield 28, 3) := by decide +kernel
theorem dX3_about_68 : decode cX3_about 68 = .ok (.iload_n 1, 1) := by decide +kernel
theorem dX3_about_69 : decode cX3_about 69 = .ok (.iaload, 1) := by decide +kernel
theorem dX3_about_70 : decode cX3_about 70 = .ok (.ireturn, 1) := by decide +kernel
theorem dX3_about_71 : decode cX3_about 71 = .ok (.aload_n 0, 1) := by decide +kernel
theorem dX3_about_72 : decode cX3_about 72 = .ok (.getfield 31, 3) := by decide +kernel
theorem dX3_about_75 : decode cX3_about 75 = .ok (.iload_n 1, 1) := by decide +kernel
theorem dX3_about_76 : decode cX3_about 76 = .ok (.iaload, 1) := by decide +kernel
theorem dX3_about_77 : decode cX3_about 77 = .ok (.ireturn, 1) := by decide +kernel
set_option maxRecDepth 20000 in
theorem ggX3_pledgeCount_X3_isPledged : GoodIn wsX3_pledgeCount wsX3_isPledged := goodIn_r _ [6, 7, 8, 9, 10, 11, 12, 13, 14] (by decide +kernel) (by decide +kernel)
set_option maxRecDepth 20000 in
theorem gX3_pledgeCount_X3_isPledged : GoodIn wsX3_pledgeCount (wsV RX3 44 RX3 yX3_isPledged wsX3_isPledged) := goodIn_app (goodIn_of _ (by decide +kernel)) ggX3_pledgeCount_X3_isPledged
theorem dX3_pledgeCount_0 : decode cX3_pledgeCount 0 = .ok (.iconst 0, 1) := by decide +kernel
theorem dX3_pledgeCount_1 : decode cX3_pledgeCount 1 = .ok (.istore_n 1, 1) := by decide +kernel
theorem dX3_pledgeCount_2 : decode cX3_pledgeCount 2 = .ok (.iconst 0, 1) := by decide +kernel
theorem dX3_pledgeCount_3 : decode cX3_pledgeCount 3 = .ok (.istore_n 2, 1) := by decide +kernel
theorem dX3_pledgeCount_4 : decode cX3_pledgeCount 4 = .ok (.iload_n 2, 1) := by decide +kernel
theorem dX3_pledgeCount_5 : decode cX3_pledgeCount 5 = .ok (.aload_n 0, 1) := by decide +kernel
theorem dX3_pledgeCount_6 : decode cX3_pledgeCount 6 = .ok (.getfield 9, 3) := by decide +kernel
theorem dX3_pledgeCount_9 : decode cX3_pledgeCount 9 = .ok (.if_icmp .ge 20, 3) := by decide +kernel
theorem dX3_pledgeCount_12 : decode cX3_pledgeCount 12 = .ok (.aload_n 0, 1) := by decide +kernel
theorem dX3_pledgeCount_13 : decode cX3_pledgeCount 13 = .ok (.iload_n 2, 1) := by decide +kernel
theorem dX3_pledgeCount_14 : decode cX3_pledgeCount 14 = .ok (.invokevirtual 44, 3) := by decide +kernel
theorem dX3_pledgeCount_17 : decode cX3_pledgeCount 17 = .ok (.ifCond .eq 6, 3) := by decide +kernel
theorem dX3_pledgeCount_20 : decode cX3_pledgeCount 20 = .ok (.iinc 1 1, 3) := by decide +kernel
theorem dX3_pledgeCount_23 : decode cX3_pledgeCount 23 = .ok (.iinc 2 1, 3) := by decide +kernel
theorem dX3_pledgeCount_26 : decode cX3_pledgeCount 26 = .ok (.goto (-22), 3) := by decide +kernel
theorem dX3_pledgeCount_29 : decode cX3_pledgeCount 29 = .ok (.iload_n 1, 1) := by decide +kernel
theorem dX3_pledgeCount_30 : decode cX3_pledgeCount 30 = .ok (.ireturn, 1) := by decide +kernel
set_option maxRecDepth 20000 in
theorem ggX3_useCount_J6_bitCount_0f7a4 : GoodIn wsX3_useCount wsJ6_bitCount_0f7a4 := goodIn_r _ [6, 7, 8, 9] (by decide +kernel) (by decide +kernel)
set_option maxRecDepth 20000 in
theorem gX3_useCount_J6_bitCount_0f7a4 : GoodIn wsX3_useCount (va_wsS RX3 48 yJ6_bitCount_0f7a4 wsJ6_bitCount_0f7a4) := goodIn_app (goodIn_of _ (by decide +kernel)) ggX3_useCount_J6_bitCount_0f7a4
theorem dX3_useCount_0 : decode cX3_useCount 0 = .ok (.iconst 0, 1) := by decide +kernel
theorem dX3_useCount_1 : decode cX3_useCount 1 = .ok (.istore_n 1, 1) := by decide +kernel
theorem dX3_useCount_2 : decode cX3_useCount 2 = .ok (.iconst 0, 1) := by decide +kernel
theorem dX3_useCount_3 : decode cX3_useCount 3 = .ok (.istore_n 2, 1) := by decide +kernel
theorem dX3_useCount_4 : decode cX3_useCount 4 = .ok (.iload_n 2, 1) := by decide +kernel
theorem dX3_useCount_5 : decode cX3_useCount 5 = .ok (.aload_n 0, 1) := by decide +kernel
theorem dX3_useCount_6 : decode cX3_useCount 6 = .ok (.getfield 9, 3) := by decide +kernel
theorem dX3_useCount_9 : decode cX3_useCount 9 = .ok (.if_icmp .ge 21, 3) := by decide +kernel
theorem dX3_useCount_12 : decode cX3_useCount 12 = .ok (.iload_n 1, 1) := by decide +kernel
theorem dX3_useCount_13 : decode cX3_useCount 13 = .ok (.aload_n 0, 1) := by decide +kernel
theorem dX3_useCount_14 : decode cX3_useCount 14 = .ok (.getfield 19, 3) := by decide +kernel
theorem dX3_useCount_17 : decode cX3_useCount 17 = .ok (.iload_n 2, 1) := by decide +kernel
theorem dX3_useCount_18 : decode cX3_useCount 18 = .ok (.iaload, 1) := by decide +kernel
theorem dX3_useCount_19 : decode cX3_useCount 19 = .ok (.invokestatic 48, 3) := by decide +kernel
theorem dX3_useCount_22 : decode cX3_useCount 22 = .ok (.iadd, 1) := by decide +kernel
theorem dX3_useCount_23 : decode cX3_useCount 23 = .ok (.istore_n 1, 1) := by decide +kernel
theorem dX3_useCount_24 : decode cX3_useCount 24 = .ok (.iinc 2 1, 3) := by decide +kernel
theorem dX3_useCount_27 : decode cX3_useCount 27 = .ok (.goto (-23), 3) := by decide +kernel
theorem dX3_useCount_30 : decode cX3_useCount 30 = .ok (.iload_n 1, 1) := by decide +kernel
theorem dX3_useCount_31 : decode cX3_useCount 31 = .ok (.ireturn, 1) := by decide +kernel
theorem dX3_slipCount_0 : decode cX3_slipCount 0 = .ok (.iconst 0, 1) := by decide +kernel
theorem dX3_slipCount_1 : decode cX3_slipCount 1 = .ok (.istore_n 1, 1) := by decide +kernel
theorem dX3_slipCount_2 : decode cX3_slipCount 2 = .ok (.iconst 0, 1) := by decide +kernel
theorem dX3_slipCount_3 : decode cX3_slipCount 3 = .ok (.istore_n 2, 1) := by decide +kernel
theorem dX3_slipCount_4 : decode cX3_slipCount 4 = .ok (.iload_n 2, 1) := by decide +kernel
theorem dX3_slipCount_5 : decode cX3_slipCount 5 = .ok (.aload_n 0, 1) := by decide +kernel
theorem dX3_slipCount_6 : decode cX3_slipCount 6 = .ok (.getfield 9, 3) := by decide +kernel
theorem dX3_slipCount_9 : decode cX3_slipCount 9 = .ok (.if_icmp .ge 18, 3) := by decide +kernel
theorem dX3_slipCount_12 : decode cX3_slipCount 12 = .ok (.iload_n 1, 1) := by decide +kernel
theorem dX3_slipCount_13 : decode cX3_slipCount 13 = .ok (.aload_n 0, 1) := by decide +kernel
theorem dX3_slipCount_14 : decode cX3_slipCount 14 = .ok (.getfield 28, 3) := by decide +kernel
theorem dX3_slipCount_17 : decode cX3_slipCount 17 = .ok (.iload_n 2, 1) := by decide +kernel
theorem dX3_slipCount_18 : decode cX3_slipCount 18 = .ok (.iaload, 1) := by decide +kernel
theorem dX3_slipCount_19 : decode cX3_slipCount 19 = .ok (.iadd, 1) := by decide +kernel
theorem dX3_slipCount_20 : decode cX3_slipCount 20 = .ok (.istore_n 1, 1) := by decide +kernel
theorem dX3_slipCount_21 : decode cX3_slipCount 21 = .ok (.iinc 2 1, 3) := by decide +kernel
theorem dX3_slipCount_24 : decode cX3_slipCount 24 = .ok (.goto (-20), 3) := by decide +kernel
theorem dX3_slipCount_27 : decode cX3_slipCount 27 = .ok (.iload_n 1, 1) := by decide +kernel
theorem dX3_slipCount_28 : decode cX3_slipCount 28 = .ok (.ireturn, 1) := by decide +kernel
theorem dX4_init_0 : decode cX4_init 0 = .ok (.aload_n 0, 1) := by decide +kernel
theorem dX4_init_1 : decode cX4_init 1 = .ok (.invokespecial 3, 3) := by decide +kernel
theorem dX4_init_4 : decode cX4_init 4 = .ok (.aload_n 0, 1) := by decide +kernel
theorem dX4_init_5 : decode cX4_init 5 = .ok (.iconst 0, 1) := by decide +kernel
theorem dX4_init_6 : decode cX4_init 6 = .ok (.putfield 9, 3) := by decide +kernel
theorem dX4_init_9 : decode cX4_init 9 = .ok (.aload_n 0, 1) := by decide +kernel
theorem dX4_init_10 : decode cX4_init 10 = .ok (.bipush 8, 2) := by decide +kernel
theorem dX4_init_12 : decode cX4_init 12 = .ok (.newarray .int, 2) := by decide +kernel
theorem dX4_init_14 : decode cX4_init 14 = .ok (.putfield 15, 3) := by decide +kernel
theorem dX4_init_17 : decode cX4_init 17 = .ok (.aload_n 0, 1) := by decide +kernel
theorem dX4_init_18 : decode cX4_init 18 = .ok (.bipush 8, 2) := by decide +kernel
theorem dX4_init_20 : decode cX4_init 20 = .ok (.newarray .int, 2) := by decide +kernel
theorem dX4_init_22 : decode cX4_init 22 = .ok (.putfield 19, 3) := by decide +kernel
theorem dX4_init_25 : decode cX4_init 25 = .ok (.aload_n 0, 1) := by decide +kernel
theorem dX4_init_26 : decode cX4_init 26 = .ok (.bipush 8, 2) := by decide +kernel
theorem dX4_init_28 : decode cX4_init 28 = .ok (.newarray .int, 2) := by decide +kernel
theorem dX4_init_30 : decode cX4_init 30 = .ok (.putfield 22, 3) := by decide +kernel
theorem dX4_init_33 : decode cX4_init 33 = .ok (.aload_n 0, 1) := by decide +kernel
theorem dX4_init_34 : decode cX4_init 34 = .ok (.bipush 8, 2) := by decide +kernel
theorem dX4_init_36 : decode cX4_init 36 = .ok (.newarray .int, 2) := by decide +kernel
theorem dX4_init_38 : decode cX4_init 38 = .ok (.putfield 25, 3) := by decide +kernel
theorem dX4_init_41 : decode cX4_init 41 = .ok (.return_, 1) := by decide +kernel
theorem dX4_copy_0 : decode cX4_copy 0 = .ok (.aload_n 0, 1) := by decide +kernel
theorem dX4_copy_1 : decode cX4_copy 1 = .ok (.aload_n 1, 1) := by decide +kernel
theorem dX4_copy_2 : decode cX4_copy 2 = .ok (.getfield 9, 3) := by decide +kernel
theorem dX4_copy_5 : decode cX4_copy 5 = .ok (.putfield 9, 3) := by decide +kernel
theorem dX4_copy_8 : decode cX4_copy 8 = .ok (.aload_n 1, 1) := by decide +kernel
theorem dX4_copy_9 : decode cX4_copy 9 = .ok (.getfield 15, 3) := by decide +kernel
theorem dX4_copy_12 : decode cX4_copy 12 = .ok (.iconst 0, 1) := by decide +kernel
theorem dX4_copy_13 : decode cX4_copy 13 = .ok (.aload_n 0, 1) := by decide +kernel
theorem dX4_copy_14 : decode cX4_copy 14 = .ok (.getfield 15, 3) := by decide +kernel
theorem dX4_copy_17 : decode cX4_copy 17 = .ok (.iconst 0, 1) := by decide +kernel
theorem dX4_copy_18 : decode cX4_copy 18 = .ok (.bipush 8, 2) := by decide +kernel
theorem dX4_copy_20 : decode cX4_copy 20 = .ok (.invokestatic 28, 3) := by decide +kernel
theorem dX4_copy_23 : decode cX4_copy 23 = .ok (.aload_n 1, 1) := by decide +kernel
theorem dX4_copy_24 : decode cX4_copy 24 = .ok (.getfield 19, 3) := by decide +kernel
theorem dX4_copy_27 : decode cX4_copy 27 = .ok (.iconst 0, 1) := by decide +kernel
theorem dX4_copy_28 : decode cX4_copy 28 = .ok (.aload_n 0, 1) := by decide +kernel
theorem dX4_copy_29 : decode cX4_copy 29 = .ok (.getfield 19, 3) := by decide +kernel
theorem dX4_copy_32 : decode cX4_copy 32 = .ok (.iconst 0, 1) := by decide +kernel
theorem dX4_copy_33 : decode cX4_copy 33 = .ok (.bipush 8, 2) := by decide +kernel
theorem dX4_copy_35 : decode cX4_copy 35 = .ok (.invokestatic 28, 3) := by decide +kernel
theorem dX4_copy_38 : decode cX4_copy 38 = .ok (.aload_n 1, 1) := by decide +kernel
theorem dX4_copy_39 : decode cX4_copy 39 = .ok (.getfield 22, 3) := by decide +kernel
theorem dX4_copy_42 : decode cX4_copy 42 = .ok (.iconst 0, 1) := by decide +kernel
theorem dX4_copy_43 : decode cX4_copy 43 = .ok (.aload_n 0, 1) := by decide +kernel
theorem dX4_copy_44 : decode cX4_copy 44 = .ok (.getfield 22, 3) := by decide +kernel
theorem dX4_copy_47 : decode cX4_copy 47 = .ok (.iconst 0, 1) := by decide +kernel
theorem dX4_copy_48 : decode cX4_copy 48 = .ok (.bipush 8, 2) := by decide +kernel
theorem dX4_copy_50 : decode cX4_copy 50 = .ok (.invokestatic 28, 3) := by decide +kernel
theorem dX4_copy_53 : decode cX4_copy 53 = .ok (.aload_n 1, 1) := by decide +kernel
theorem dX4_copy_54 : decode cX4_copy 54 = .ok (.getfield 25, 3) := by decide +kernel
theorem dX4_copy_57 : decode cX4_copy 57 = .ok (.iconst 0, 1) := by decide +kernel
theorem dX4_copy_58 : decode cX4_copy 58 = .ok (.aload_n 0, 1) := by decide +kernel
theorem dX4_copy_59 : decode cX4_copy 59 = .ok (.getfield 25, 3) := by decide +kernel
theorem dX4_copy_62 : decode cX4_copy 62 = .ok (.iconst 0, 1) := by decide +kernel
theorem dX4_copy_63 : decode cX4_copy 63 = .ok (.bipush 8, 2) := by decide +kernel
theorem dX4_copy_65 : decode cX4_copy 65 = .ok (.invokestatic 28, 3) := by decide +kernel
theorem dX4_copy_68 : decode cX4_copy 68 = .ok (.return_, 1) := by decide +kernel
theorem dX4_addRow_0 : decode cX4_addRow 0 = .ok (.aload_n 0, 1) := by decide +kernel
theorem dX4_addRow_1 : decode cX4_addRow 1 = .ok (.getfield 9, 3) := by decide +kernel
theorem dX4_addRow_4 : decode cX4_addRow 4 = .ok (.istore_n 3, 1) := by decide +kernel
theorem dX4_addRow_5 : decode cX4_addRow 5 = .ok (.aload_n 0, 1) := by decide +kernel
theorem dX4_addRow_6 : decode cX4_addRow 6 = .ok (.getfield 15, 3) := by decide +kernel
theorem dX4_addRow_9 : decode cX4_addRow 9 = .ok (.iload_n 3, 1) := by decide +kernel
theorem dX4_addRow_10 : decode cX4_addRow 10 = .ok (.iload_n 1, 1) := by decide +kernel
theorem dX4_addRow_11 : decode cX4_addRow 11 = .ok (.iastore, 1) := by decide +kernel
theorem dX4_addRow_12 : decode cX4_addRow 12 = .ok (.aload_n 0, 1) := by decide +kernel
theorem dX4_addRow_13 : decode cX4_addRow 13 = .ok (.getfield 19, 3) := by decide +kernel
theorem dX4_addRow_16 : decode cX4_addRow 16 = .ok (.iload_n 3, 1) := by decide +kernel
theorem dX4_addRow_17 : decode cX4_addRow 17 = .ok (.iload_n 2, 1) := by decide +kernel
theorem dX4_addRow_18 : decode cX4_addRow 18 = .ok (.iastore, 1) := by decide +kernel
theorem dX4_addRow_19 : decode cX4_addRow 19 = .ok (.aload_n 0, 1) := by decide +kernel
theorem dX4_addRow_20 : decode cX4_addRow 20 = .ok (.getfield 22, 3) := by decide +kernel
theorem dX4_addRow_23 : decode cX4_addRow 23 = .ok (.iload_n 3, 1) := by decide +kernel
theorem dX4_addRow_24 : decode cX4_addRow 24 = .ok (.iconst 0, 1) := by decide +kernel
theorem dX4_addRow_25 : decode cX4_addRow 25 = .ok (.iastore, 1) := by decide +kernel
theorem dX4_addRow_26 : decode cX4_addRow 26 = .ok (.aload_n 0, 1) := by decide +kernel
theorem dX4_addRow_27 : decode cX4_addRow 27 = .ok (.getfield 25, 3) := by decide +kernel
theorem dX4_addRow_30 : decode cX4_addRow 30 = .ok (.iload_n 3, 1) := by decide +kernel
theorem dX4_addRow_31 : decode cX4_addRow 31 = .ok (.iconst 0, 1) := by decide +kernel
theorem dX4_addRow_32 : decode cX4_addRow 32 = .ok (.iastore, 1) := by decide +kernel
theorem dX4_addRow_33 : decode cX4_addRow 33 = .ok (.aload_n 0, 1) := by decide +kernel
theorem dX4_addRow_34 : decode cX4_addRow 34 = .ok (.dup, 1) := by decide +kernel
theorem dX4_addRow_35 : decode cX4_addRow 35 = .ok (.getfield 9, 3) := by decide +kernel
theorem dX4_addRow_38 : decode cX4_addRow 38 = .ok (.iconst 1, 1) := by decide +kernel
theorem dX4_addRow_39 : decode cX4_addRow 39 = .ok (.iadd, 1) := by decide +kernel
theorem dX4_addRow_40 : decode cX4_addRow 40 = .ok (.putfield 9, 3) := by decide +kernel
theorem dX4_addRow_43 : decode cX4_addRow 43 = .ok (.iload_n 3, 1) := by decide +kernel
theorem dX4_addRow_44 : decode cX4_addRow 44 = .ok (.ireturn, 1) := by decide +kernel
theorem dX4_moveEnd_0 : decode cX4_moveEnd 0 = .ok (.aload_n 0, 1) := by decide +kernel
theorem dX4_moveEnd_1 : decode cX4_moveEnd 1 = .ok (.getfield 19, 3) := by decide +kernel
theorem dX4_moveEnd_4 : decode cX4_moveEnd 4 = .ok (.iload_n 1, 1) := by decide +kernel
theorem dX4_moveEnd_5 : decode cX4_moveEnd 5 = .ok (.dup2, 1) := by decide +kernel
theorem dX4_moveEnd_6 : decode cX4_moveEnd 6 = .ok (.iaload, 1) := by decide +kernel
theorem dX4_moveEnd_7 : decode cX4_moveEnd 7 = .ok (.iload_n 2, 1) := by decide +kernel
theorem dX4_moveEnd_8 : decode cX4_moveEnd 8 = .ok (.iadd, 1) := by decide +kernel
theorem dX4_moveEnd_9 : decode cX4_moveEnd 9 = .ok (.iastore, 1) := by decide +kernel
theorem dX4_moveEnd_10 : decode cX4_moveEnd 10 = .ok (.aload_n 0, 1) := by decide +kernel
theorem dX4_moveEnd_11 : decode cX4_moveEnd 11 = .ok (.getfield 22, 3) := by decide +kernel
theorem dX4_moveEnd_14 : decode cX4_moveEnd 14 = .ok (.iload_n 1, 1) := by decide +kernel
theorem dX4_moveEnd_15 : decode cX4_moveEnd 15 = .ok (.dup2, 1) := by decide +kernel
theorem dX4_moveEnd_16 : decode cX4_moveEnd 16 = .ok (.iaload, 1) := by decide +kernel
theorem dX4_moveEnd_17 : decode cX4_moveEnd 17 = .ok (.iload_n 2, 1) := by decide +kernel
theorem dX4_moveEnd_18 : decode cX4_moveEnd 18 = .ok (.iadd, 1) := by decide +kernel
theorem dX4_moveEnd_19 : decode cX4_moveEnd 19 = .ok (.iastore, 1) := by decide +kernel
theorem dX4_moveEnd_20 : decode cX4_moveEnd 20 = .ok (.return_, 1) := by decide +kernel
theorem dX4_isAlive_0 : decode cX4_isAlive 0 = .ok (.iload_n 2, 1) := by decide +kernel
theorem dX4_isAlive_1 : decode cX4_isAlive 1 = .ok (.aload_n 0, 1) := by decide +kernel
theorem dX4_isAlive_2 : decode cX4_isAlive 2 = .ok (.getfield 15, 3) := by decide +kernel
theorem dX4_isAlive_5 : decode cX4_isAlive 5 = .ok (.iload_n 1, 1) := by decide +kernel
theorem dX4_isAlive_6 : decode cX4_isAlive 6 = .ok (.iaload, 1) := by decide +kernel
theorem dX4_isAlive_7 : decode cX4_isAlive 7 = .ok (.if_icmp .lt 17, 3) := by decide +kernel
theorem dX4_isAlive_10 : decode cX4_isAlive 10 = .ok (.iload_n 2, 1) := by decide +kernel
theorem dX4_isAlive_11 : decode cX4_isAlive 11 = .ok (.aload_n 0, 1) := by decide +kernel
theorem dX4_isAlive_12 : decode cX4_isAlive 12 = .ok (.getfield 19, 3) := by decide +kernel
theorem dX4_isAlive_15 : decode cX4_isAlive 15 = .ok (.iload_n 1, 1) := by decide +kernel
theorem dX4_isAlive_16 : decode cX4_isAlive 16 = .ok (.iaload, 1) := by decide +kernel
theorem dX4_isAlive_17 : decode cX4_isAlive 17 = .ok (.if_icmp .ge 7, 3) := by decide +kernel
theorem dX4_isAlive_20 : decode cX4_isAlive 20 = .ok (.iconst 1, 1) := by decide +kernel
theorem dX4_isAlive_21 : decode cX4_isAlive 21 = .ok (.goto 4, 3) := by decide +kernel
theorem dX4_isAlive_24 : decode cX4_isAlive 24 = .ok (.iconst 0, 1) := by decide +kernel
theorem dX4_isAlive_25 : decode cX4_isAlive 25 = .ok (.ireturn, 1) := by decide +kernel
set_option maxRecDepth 20000 in
theorem ggX4_allWith_X5_contains : GoodIn wsX4_allWith wsX5_contains := goodIn_r _ [5] (by decide +kernel) (by decide +kernel)
set_option maxRecDepth 20000 in
theorem gX4_allWith_X5_contains_n34 : GoodIn wsX4_allWith (wsX5_contains) := ggX4_allWith_X5_contains
theorem dX4_allWith_0 : decode cX4_allWith 0 = .ok (.iconst 0, 1) := by decide +kernel
theorem dX4_allWith_1 : decode cX4_allWith 1 = .ok (.istore_n 2, 1) := by decide +kernel
theorem dX4_allWith_2 : decode cX4_allWith 2 = .ok (.iconst 0, 1) := by decide +kernel
theorem dX4_allWith_3 : decode cX4_allWith 3 = .ok (.istore_n 3, 1) := by decide +kernel
theorem dX4_allWith_4 : decode cX4_allWith 4 = .ok (.iload_n 3, 1) := by decide +kernel
theorem dX4_allWith_5 : decode cX4_allWith 5 = .ok (.aload_n 0, 1) := by decide +kernel
theorem dX4_allWith_6 : decode cX4_allWith 6 = .ok (.getfield 9, 3) := by decide +kernel
theorem dX4_allWith_9 : decode cX4_allWith 9 = .ok (.if_icmp .ge 28, 3) := by decide +kernel
theorem dX4_allWith_12 : decode cX4_allWith 12 = .ok (.aload_n 0, 1) := by decide +kernel
theorem dX4_allWith_13 : decode cX4_allWith 13 = .ok (.getfield 25, 3) := by decide +kernel
theorem dX4_allWith_16 : decode cX4_allWith 16 = .ok (.iload_n 3, 1) := by decide +kernel
theorem dX4_allWith_17 : decode cX4_allWith 17 = .ok (.iaload, 1) := by decide +kernel
theorem dX4_allWith_18 : decode cX4_allWith 18 = .ok (.iload_n 1, 1) := by decide +kernel
theorem dX4_allWith_19 : decode cX4_allWith 19 = .ok (.invokestatic 34, 3) := by decide +kernel
theorem dX4_allWith_22 : decode cX4_allWith 22 = .ok (.ifCond .eq 9, 3) := by decide +kernel
theorem dX4_allWith_25 : decode cX4_allWith 25 = .ok (.iload_n 2, 1) := by decide +kernel
theorem dX4_allWith_26 : decode cX4_allWith 26 = .ok (.iconst 1, 1) := by decide +kernel
theorem dX4_allWith_27 : decode cX4_allWith 27 = .ok (.iload_n 3, 1) := by decide +kernel
theorem dX4_allWith_28 : decode cX4_allWith 28 = .ok (.ishl, 1) := by decide +kernel
theorem dX4_allWith_29 : decode cX4_allWith 29 = .ok (.ior, 1) := by decide +kernel
theorem dX4_allWith_30 : decode cX4_allWith 30 = .ok (.istore_n 2, 1) := by decide +kernel
theorem dX4_allWith_31 : decode cX4_allWith 31 = .ok (.iinc 3 1, 3) := by decide +kernel
theorem dX4_allWith_34 : decode cX4_allWith 34 = .ok (.goto (-30), 3) := by decide +kernel
theorem dX4_allWith_37 : decode cX4_allWith 37 = .ok (.iload_n 2, 1) := by decide +kernel
theorem dX4_allWith_38 : decode cX4_allWith 38 = .ok (.ireturn, 1) := by decide +kernel
