theorem dX0_init_0 : decode cX0_init 0 = .ok (.aload_n 0, 1) := by decide +kernel
theorem dX0_init_1 : decode cX0_init 1 = .ok (.invokespecial 3, 3) := by decide +kernel
theorem dX0_init_4 : decode cX0_init 4 = .ok (.aload_n 0, 1) := by decide +kernel
theorem dX0_init_5 : decode cX0_init 5 = .ok (.new 9, 3) := by decide +kernel
theorem dX0_init_8 : decode cX0_init 8 = .ok (.dup, 1) := by decide +kernel
theorem dX0_init_9 : decode cX0_init 9 = .ok (.invokespecial 11, 3) := by decide +kernel
theorem dX0_init_12 : decode cX0_init 12 = .ok (.putfield 12, 3) := by decide +kernel
theorem dX0_init_15 : decode cX0_init 15 = .ok (.aload_n 0, 1) := by decide +kernel
theorem dX0_init_16 : decode cX0_init 16 = .ok (.new 18, 3) := by decide +kernel
theorem dX0_init_19 : decode cX0_init 19 = .ok (.dup, 1) := by decide +kernel
theorem dX0_init_20 : decode cX0_init 20 = .ok (.invokespecial 20, 3) := by decide +kernel
theorem dX0_init_23 : decode cX0_init 23 = .ok (.putfield 21, 3) := by decide +kernel
theorem dX0_init_26 : decode cX0_init 26 = .ok (.aload_n 0, 1) := by decide +kernel
theorem dX0_init_27 : decode cX0_init 27 = .ok (.new 25, 3) := by decide +kernel
theorem dX0_init_30 : decode cX0_init 30 = .ok (.dup, 1) := by decide +kernel
theorem dX0_init_31 : decode cX0_init 31 = .ok (.invokespecial 27, 3) := by decide +kernel
theorem dX0_init_34 : decode cX0_init 34 = .ok (.putfield 28, 3) := by decide +kernel
theorem dX0_init_37 : decode cX0_init 37 = .ok (.aload_n 0, 1) := by decide +kernel
theorem dX0_init_38 : decode cX0_init 38 = .ok (.bipush 9, 2) := by decide +kernel
theorem dX0_init_40 : decode cX0_init 40 = .ok (.newarray .int, 2) := by decide +kernel
theorem dX0_init_42 : decode cX0_init 42 = .ok (.putfield 32, 3) := by decide +kernel
theorem dX0_init_45 : decode cX0_init 45 = .ok (.aload_n 0, 1) := by decide +kernel
theorem dX0_init_46 : decode cX0_init 46 = .ok (.bipush 40, 2) := by decide +kernel
theorem dX0_init_48 : decode cX0_init 48 = .ok (.putfield 36, 3) := by decide +kernel
theorem dX0_init_51 : decode cX0_init 51 = .ok (.return_, 1) := by decide +kernel
theorem dX0_speak_0 : decode cX0_speak 0 = .ok (.iconst 0, 1) := by decide +kernel
theorem dX0_speak_1 : decode cX0_speak 1 = .ok (.istore_n 3, 1) := by decide +kernel
theorem dX0_speak_2 : decode cX0_speak 2 = .ok (.iload_n 3, 1) := by decide +kernel
theorem dX0_speak_3 : decode cX0_speak 3 = .ok (.iconst 4, 1) := by decide +kernel
theorem dX0_speak_4 : decode cX0_speak 4 = .ok (.if_icmp .ge 15, 3) := by decide +kernel
theorem dX0_speak_7 : decode cX0_speak 7 = .ok (.aload_n 0, 1) := by decide +kernel
theorem dX0_speak_8 : decode cX0_speak 8 = .ok (.iload_n 3, 1) := by decide +kernel
theorem dX0_speak_9 : decode cX0_speak 9 = .ok (.aload_n 1, 1) := by decide +kernel
theorem dX0_speak_10 : decode cX0_speak 10 = .ok (.invokevirtual 40, 3) := by decide +kernel
theorem dX0_speak_13 : decode cX0_speak 13 = .ok (.iinc 3 1, 3) := by decide +kernel
theorem dX0_speak_16 : decode cX0_speak 16 = .ok (.goto (-14), 3) := by decide +kernel
theorem dX0_speak_19 : decode cX0_speak 19 = .ok (.aload_n 0, 1) := by decide +kernel
theorem dX0_speak_20 : decode cX0_speak 20 = .ok (.getfield 12, 3) := by decide +kernel
theorem dX0_speak_23 : decode cX0_speak 23 = .ok (.aload_n 1, 1) := by decide +kernel
theorem dX0_speak_24 : decode cX0_speak 24 = .ok (.invokevirtual 44, 3) := by decide +kernel
theorem dX0_speak_27 : decode cX0_speak 27 = .ok (.aload_n 0, 1) := by decide +kernel
theorem dX0_speak_28 : decode cX0_speak 28 = .ok (.aload_n 2, 1) := by decide +kernel
theorem dX0_speak_29 : decode cX0_speak 29 = .ok (.invokevirtual 48, 3) := by decide +kernel
theorem dX0_speak_32 : decode cX0_speak 32 = .ok (.aload_n 0, 1) := by decide +kernel
theorem dX0_speak_33 : decode cX0_speak 33 = .ok (.getfield 21, 3) := by decide +kernel
theorem dX0_speak_36 : decode cX0_speak 36 = .ok (.invokevirtual 51, 3) := by decide +kernel
theorem dX0_speak_39 : decode cX0_speak 39 = .ok (.aload_n 0, 1) := by decide +kernel
theorem dX0_speak_40 : decode cX0_speak 40 = .ok (.dup, 1) := by decide +kernel
theorem dX0_speak_41 : decode cX0_speak 41 = .ok (.getfield 54, 3) := by decide +kernel
theorem dX0_speak_44 : decode cX0_speak 44 = .ok (.iconst 1, 1) := by decide +kernel
theorem dX0_speak_45 : decode cX0_speak 45 = .ok (.iadd, 1) := by decide +kernel
theorem dX0_speak_46 : decode cX0_speak 46 = .ok (.putfield 54, 3) := by decide +kernel
theorem dX0_speak_49 : decode cX0_speak 49 = .ok (.return_, 1) := by decide +kernel
theorem dX0_forget_0 : decode cX0_forget 0 = .ok (.aload_n 0, 1) := by decide +kernel
theorem dX0_forget_1 : decode cX0_forget 1 = .ok (.getfield 12, 3) := by decide +kernel
theorem dX0_forget_4 : decode cX0_forget 4 = .ok (.invokevirtual 57, 3) := by decide +kernel
theorem dX0_forget_7 : decode cX0_forget 7 = .ok (.aload_n 0, 1) := by decide +kernel
theorem dX0_forget_8 : decode cX0_forget 8 = .ok (.getfield 21, 3) := by decide +kernel
theorem dX0_forget_11 : decode cX0_forget 11 = .ok (.invokevirtual 60, 3) := by decide +kernel
theorem dX0_forget_14 : decode cX0_forget 14 = .ok (.aload_n 0, 1) := by decide +kernel
theorem dX0_forget_15 : decode cX0_forget 15 = .ok (.getfield 32, 3) := by decide +kernel
theorem dX0_forget_18 : decode cX0_forget 18 = .ok (.iconst 0, 1) := by decide +kernel
theorem dX0_forget_19 : decode cX0_forget 19 = .ok (.invokestatic 61, 3) := by decide +kernel
theorem dX0_forget_22 : decode cX0_forget 22 = .ok (.aload_n 0, 1) := by decide +kernel
theorem dX0_forget_23 : decode cX0_forget 23 = .ok (.bipush 40, 2) := by decide +kernel
theorem dX0_forget_25 : decode cX0_forget 25 = .ok (.putfield 36, 3) := by decide +kernel
theorem dX0_forget_28 : decode cX0_forget 28 = .ok (.aload_n 0, 1) := by decide +kernel
theorem dX0_forget_29 : decode cX0_forget 29 = .ok (.iconst 0, 1) := by decide +kernel
theorem dX0_forget_30 : decode cX0_forget 30 = .ok (.putfield 67, 3) := by decide +kernel
theorem dX0_forget_33 : decode cX0_forget 33 = .ok (.aload_n 0, 1) := by decide +kernel
theorem dX0_forget_34 : decode cX0_forget 34 = .ok (.iconst 0, 1) := by decide +kernel
theorem dX0_forget_35 : decode cX0_forget 35 = .ok (.putfield 54, 3) := by decide +kernel
theorem dX0_forget_38 : decode cX0_forget 38 = .ok (.return_, 1) := by decide +kernel
theorem dX0_rebuildPart_0 : decode cX0_rebuildPart 0 = .ok (.bipush 8, 2) := by decide +kernel
theorem dX0_rebuildPart_2 : decode cX0_rebuildPart 2 = .ok (.bipush 17, 2) := by decide +kernel
theorem dX0_rebuildPart_4 : decode cX0_rebuildPart 4 = .ok (.iload_n 1, 1) := by decide +kernel
theorem dX0_rebuildPart_5 : decode cX0_rebuildPart 5 = .ok (.imul, 1) := by decide +kernel
theorem dX0_rebuildPart_6 : decode cX0_rebuildPart 6 = .ok (.iadd, 1) := by decide +kernel
theorem dX0_rebuildPart_7 : decode cX0_rebuildPart 7 = .ok (.istore_n 3, 1) := by decide +kernel
theorem dX0_rebuildPart_8 : decode cX0_rebuildPart 8 = .ok (.aload_n 2, 1) := by decide +kernel
theorem dX0_rebuildPart_9 : decode cX0_rebuildPart 9 = .ok (.iload_n 3, 1) := by decide +kernel
theorem dX0_rebuildPart_10 : decode cX0_rebuildPart 10 = .ok (.iaload, 1) := by decide +kernel
theorem dX0_rebuildPart_11 : decode cX0_rebuildPart 11 = .ok (.istore 4, 2) := by decide +kernel
theorem dX0_rebuildPart_13 : decode cX0_rebuildPart 13 = .ok (.iload 4, 2) := by decide +kernel
theorem dX0_rebuildPart_15 : decode cX0_rebuildPart 15 = .ok (.bipush 40, 2) := by decide +kernel
theorem dX0_rebuildPart_17 : decode cX0_rebuildPart 17 = .ok (.if_icmp .lt 16, 3) := by decide +kernel
theorem dX0_rebuildPart_20 : decode cX0_rebuildPart 20 = .ok (.iload 4, 2) := by decide +kernel
theorem dX0_rebuildPart_22 : decode cX0_rebuildPart 22 = .ok (.bipush 120, 2) := by decide +kernel
theorem dX0_rebuildPart_24 : decode cX0_rebuildPart 24 = .ok (.if_icmp .gt 9, 3) := by decide +kernel
theorem dX0_rebuildPart_27 : decode cX0_rebuildPart 27 = .ok (.aload_n 0, 1) := by decide +kernel
theorem dX0_rebuildPart_28 : decode cX0_rebuildPart 28 = .ok (.iload 4, 2) := by decide +kernel
theorem dX0_rebuildPart_30 : decode cX0_rebuildPart 30 = .ok (.putfield 36, 3) := by decide +kernel
theorem dX0_rebuildPart_33 : decode cX0_rebuildPart 33 = .ok (.aload_n 0, 1) := by decide +kernel
theorem dX0_rebuildPart_34 : decode cX0_rebuildPart 34 = .ok (.getfield 28, 3) := by decide +kernel
theorem dX0_rebuildPart_37 : decode cX0_rebuildPart 37 = .ok (.aload_n 2, 1) := by decide +kernel
theorem dX0_rebuildPart_38 : decode cX0_rebuildPart 38 = .ok (.iload_n 3, 1) := by decide +kernel
theorem dX0_rebuildPart_39 : decode cX0_rebuildPart 39 = .ok (.invokevirtual 70, 3) := by decide +kernel
theorem dX0_rebuildPart_42 : decode cX0_rebuildPart 42 = .ok (.aload_n 0, 1) := by decide +kernel
theorem dX0_rebuildPart_43 : decode cX0_rebuildPart 43 = .ok (.getfield 21, 3) := by decide +kernel
theorem dX0_rebuildPart_46 : decode cX0_rebuildPart 46 = .ok (.iload_n 1, 1) := by decide +kernel
theorem dX0_rebuildPart_47 : decode cX0_rebuildPart 47 = .ok (.aload_n 0, 1) := by decide +kernel
theorem dX0_rebuildPart_48 : decode cX0_rebuildPart 48 = .ok (.getfield 36, 3) := by decide +kernel
theorem dX0_rebuildPart_51 : decode cX0_rebuildPart 51 = .ok (.aload_n 2, 1) := by decide +kernel
theorem dX0_rebuildPart_52 : decode cX0_rebuildPart 52 = .ok (.iload_n 3, 1) := by decide +kernel
theorem dX0_rebuildPart_53 : decode cX0_rebuildPart 53 = .ok (.iconst 1, 1) := by decide +kernel
theorem dX0_rebuildPart_54 : decode cX0_rebuildPart 54 = .ok (.iadd, 1) := by decide +kernel
theorem dX0_rebuildPart_55 : decode cX0_rebuildPart 55 = .ok (.iaload, 1) := by decide +kernel
theorem dX0_rebuildPart_56 : decode cX0_rebuildPart 56 = .ok (.invokevirtual 73, 3) := by decide +kernel
theorem dX0_rebuildPart_59 : decode cX0_rebuildPart 59 = .ok (.aload_n 0, 1) := by decide +kernel
theorem dX0_rebuildPart_60 : decode cX0_rebuildPart 60 = .ok (.getfield 21, 3) := by decide +kernel
theorem dX0_rebuildPart_63 : decode cX0_rebuildPart 63 = .ok (.iload_n 1, 1) := by decide +kernel
theorem dX0_rebuildPart_64 : decode cX0_rebuildPart 64 = .ok (.aload_n 0, 1) := by decide +kernel
theorem dX0_rebuildPart_65 : decode cX0_rebuildPart 65 = .ok (.getfield 28, 3) := by decide +kernel
theorem dX0_rebuildPart_68 : decode cX0_rebuildPart 68 = .ok (.getfield 77, 3) := by decide +kernel
theorem dX0_rebuildPart_71 : decode cX0_rebuildPart 71 = .ok (.invokevirtual 80, 3) := by decide +kernel
theorem dX0_rebuildPart_74 : decode cX0_rebuildPart 74 = .ok (.return_, 1) := by decide +kernel
theorem dX0_giveBack_0 : decode cX0_giveBack 0 = .ok (.iconst 0, 1) := by decide +kernel
theorem dX0_giveBack_1 : decode cX0_giveBack 1 = .ok (.istore_n 2, 1) := by decide +kernel
theorem dX0_giveBack_2 : decode cX0_giveBack 2 = .ok (.iconst 0, 1) := by decide +kernel
theorem dX0_giveBack_3 : decode cX0_giveBack 3 = .ok (.istore_n 3, 1) := by decide +kernel
theorem dX0_giveBack_4 : decode cX0_giveBack 4 = .ok (.iload_n 3, 1) := by decide +kernel
theorem dX0_giveBack_5 : decode cX0_giveBack 5 = .ok (.getstatic 83, 3) := by decide +kernel
theorem dX0_giveBack_8 : decode cX0_giveBack 8 = .ok (.arraylength, 1) := by decide +kernel
theorem dX0_giveBack_9 : decode cX0_giveBack 9 = .ok (.if_icmp .ge 53, 3) := by decide +kernel
theorem dX0_giveBack_12 : decode cX0_giveBack 12 = .ok (.aload_n 0, 1) := by decide +kernel
theorem dX0_giveBack_13 : decode cX0_giveBack 13 = .ok (.getfield 12, 3) := by decide +kernel
theorem dX0_giveBack_16 : decode cX0_giveBack 16 = .ok (.iload_n 3, 1) := by decide +kernel
theorem dX0_giveBack_17 : decode cX0_giveBack 17 = .ok (.invokevirtual 86, 3) := by decide +kernel
theorem dX0_giveBack_20 : decode cX0_giveBack 20 = .ok (.iload_n 2, 1) := by decide +kernel
theorem dX0_giveBack_21 : decode cX0_giveBack 21 = .ok (.getstatic 83, 3) := by decide +kernel
theorem dX0_giveBack_24 : decode cX0_giveBack 24 = .ok (.iload_n 3, 1) := by decide +kernel
theorem dX0_giveBack_25 : decode cX0_giveBack 25 = .ok (.iaload, 1) := by decide +kernel
theorem dX0_giveBack_26 : decode cX0_giveBack 26 = .ok (.if_icmp .ge 30, 3) := by decide +kernel
theorem dX0_giveBack_29 : decode cX0_giveBack 29 = .ok (.aload_n 1, 1) := by decide +kernel
theorem dX0_giveBack_30 : decode cX0_giveBack 30 = .ok (.iload_n 2, 1) := by decide +kernel
theorem dX0_giveBack_31 : decode cX0_giveBack 31 = .ok (.aload_n 0, 1) := by decide +kernel
theorem dX0_giveBack_32 : decode cX0_giveBack 32 = .ok (.aload_n 0, 1) := by decide +kernel
theorem dX0_giveBack_33 : decode cX0_giveBack 33 = .ok (.getfield 21, 3) := by decide +kernel
theorem dX0_giveBack_36 : decode cX0_giveBack 36 = .ok (.getfield 90, 3) := by decide +kernel
theorem dX0_giveBack_39 : decode cX0_giveBack 39 = .ok (.iconst 0, 1) := by decide +kernel
theorem dX0_giveBack_40 : decode cX0_giveBack 40 = .ok (.invokestatic 93, 3) := by decide +kernel
theorem dX0_giveBack_43 : decode cX0_giveBack 43 = .ok (.iload_n 2, 1) := by decide +kernel
theorem dX0_giveBack_44 : decode cX0_giveBack 44 = .ok (.iadd, 1) := by decide +kernel
theorem dX0_giveBack_45 : decode cX0_giveBack 45 = .ok (.iaload, 1) := by decide +kernel
theorem dX0_giveBack_46 : decode cX0_giveBack 46 = .ok (.invokevirtual 97, 3) := by decide +kernel
theorem dX0_giveBack_49 : decode cX0_giveBack 49 = .ok (.iastore, 1) := by decide +kernel
theorem dX0_giveBack_50 : decode cX0_giveBack 50 = .ok (.iinc 2 1, 3) := by decide +kernel
theorem dX0_giveBack_53 : decode cX0_giveBack 53 = .ok (.goto (-33), 3) := by decide +kernel
theorem dX0_giveBack_56 : decode cX0_giveBack 56 = .ok (.iinc 3 1, 3) := by decide +kernel
theorem dX0_giveBack_59 : decode cX0_giveBack 59 = .ok (.goto (-55), 3) := by decide +kernel
theorem dX0_giveBack_62 : decode cX0_giveBack 62 = .ok (.return_, 1) := by decide +kernel
theorem dX0_spoken_0 : decode cX0_spoken 0 = .ok (.iload_n 1, 1) := by decide +kernel
theorem dX0_spoken_1 : decode cX0_spoken 1 = .ok (.istore_n 2, 1) := by decide +kernel
theorem dX0_spoken_2 : decode cX0_spoken 2 = .ok (.bipush 8, 2) := by decide +kernel
theorem dX0_spoken_4 : decode cX0_spoken 4 = .ok (.istore_n 3, 1) := by decide +kernel
theorem dX0_spoken_5 : decode cX0_spoken 5 = .ok (.iload_n 3, 1) := by decide +kernel
theorem dX0_spoken_6 : decode cX0_spoken 6 = .ok (.iconst 1, 1) := by decide +kernel
theorem dX0_spoken_7 : decode cX0_spoken 7 = .ok (.if_icmp .lt 65, 3) := by decide +kernel
theorem dX0_spoken_10 : decode cX0_spoken 10 = .ok (.aload_n 0, 1) := by decide +kernel
theorem dX0_spoken_11 : decode cX0_spoken 11 = .ok (.getfield 12, 3) := by decide +kernel
theorem dX0_spoken_14 : decode cX0_spoken 14 = .ok (.getfield 100, 3) := by decide +kernel
theorem dX0_spoken_17 : decode cX0_spoken 17 = .ok (.iload_n 3, 1) := by decide +kernel
theorem dX0_spoken_18 : decode cX0_spoken 18 = .ok (.iconst 1, 1) := by decide +kernel
theorem dX0_spoken_19 : decode cX0_spoken 19 = .ok (.isub, 1) := by decide +kernel
theorem dX0_spoken_20 : decode cX0_spoken 20 = .ok (.iaload, 1) := by decide +kernel
theorem dX0_spoken_21 : decode cX0_spoken 21 = .ok (.istore 4, 2) := by decide +kernel
theorem dX0_spoken_23 : decode cX0_spoken 23 = .ok (.iload_n 2, 1) := by decide +kernel
theorem dX0_spoken_24 : decode cX0_spoken 24 = .ok (.iload 4, 2) := by decide +kernel
theorem dX0_spoken_26 : decode cX0_spoken 26 = .ok (.aload_n 0, 1) := by decide +kernel
theorem dX0_spoken_27 : decode cX0_spoken 27 = .ok (.getfield 32, 3) := by decide +kernel
theorem dX0_spoken_30 : decode cX0_spoken 30 = .ok (.iload_n 3, 1) := by decide +kernel
theorem dX0_spoken_31 : decode cX0_spoken 31 = .ok (.iconst 1, 1) := by decide +kernel
theorem dX0_spoken_32 : decode cX0_spoken 32 = .ok (.isub, 1) := by decide +kernel
theorem dX0_spoken_33 : decode cX0_spoken 33 = .ok (.iaload, 1) := by decide +kernel
theorem dX0_spoken_34 : decode cX0_spoken 34 = .ok (.invokestatic 103, 3) := by decide +kernel
theorem dX0_spoken_37 : decode cX0_spoken 37 = .ok (.isub, 1) := by decide +kernel
theorem dX0_spoken_38 : decode cX0_spoken 38 = .ok (.invokestatic 109, 3) := by decide +kernel
theorem dX0_spoken_41 : decode cX0_spoken 41 = .ok (.istore_n 2, 1) := by decide +kernel
theorem dX0_spoken_42 : decode cX0_spoken 42 = .ok (.aload_n 0, 1) := by decide +kernel
theorem dX0_spoken_43 : decode cX0_spoken 43 = .ok (.getfield 32, 3) := by decide +kernel
theorem dX0_spoken_46 : decode cX0_spoken 46 = .ok (.iload_n 3, 1) := by decide +kernel
theorem dX0_spoken_47 : decode cX0_spoken 47 = .ok (.aload_n 0, 1) := by decide +kernel
theorem dX0_spoken_48 : decode cX0_spoken 48 = .ok (.getfield 32, 3) := by decide +kernel
theorem dX0_spoken_51 : decode cX0_spoken 51 = .ok (.iload_n 3, 1) := by decide +kernel
theorem dX0_spoken_52 : decode cX0_spoken 52 = .ok (.iconst 1, 1) := by decide +kernel
theorem dX0_spoken_53 : decode cX0_spoken 53 = .ok (.isub, 1) := by decide +kernel
theorem dX0_spoken_54 : decode cX0_spoken 54 = .ok (.iaload, 1) := by decide +kernel
theorem dX0_spoken_55 : decode cX0_spoken 55 = .ok (.iload 4, 2) := by decide +kernel
theorem dX0_spoken_57 : decode cX0_spoken 57 = .ok (.iload_n 2, 1) := by decide +kernel
theorem dX0_spoken_58 : decode cX0_spoken 58 = .ok (.invokestatic 103, 3) := by decide +kernel
theorem dX0_spoken_61 : decode cX0_spoken 61 = .ok (.iadd, 1) := by decide +kernel
theorem dX0_spoken_62 : decode cX0_spoken 62 = .ok (.invokestatic 109, 3) := by decide +kernel
theorem dX0_spoken_65 : decode cX0_spoken 65 = .ok (.iastore, 1) := by decide +kernel
theorem dX0_spoken_66 : decode cX0_spoken 66 = .ok (.iinc 3 (-1), 3) := by decide +kernel
theorem dX0_spoken_69 : decode cX0_spoken 69 = .ok (.goto (-64), 3) := by decide +kernel
theorem dX0_spoken_72 : decode cX0_spoken 72 = .ok (.aload_n 0, 1) := by decide +kernel
theorem dX0_spoken_73 : decode cX0_spoken 73 = .ok (.getfield 32, 3) := by decide +kernel
theorem dX0_spoken_76 : decode cX0_spoken 76 = .ok (.iconst 0, 1) := by decide +kernel
theorem dX0_spoken_77 : decode cX0_spoken 77 = .ok (.iload_n 2, 1) := by decide +kernel
theorem dX0_spoken_78 : decode cX0_spoken 78 = .ok (.iastore, 1) := by decide +kernel
theorem dX0_spoken_79 : decode cX0_spoken 79 = .ok (.aload_n 0, 1) := by decide +kernel
theorem dX0_spoken_80 : decode cX0_spoken 80 = .ok (.iload_n 2, 1) := by decide +kernel
theorem dX0_spoken_81 : decode cX0_spoken 81 = .ok (.aload_n 0, 1) := by decide +kernel
theorem dX0_spoken_82 : decode cX0_spoken 82 = .ok (.getfield 67, 3) := by decide +kernel
theorem dX0_spoken_85 : decode cX0_spoken 85 = .ok (.sipush 28180, 3) := by decide +kernel
theorem dX0_spoken_88 : decode cX0_spoken 88 = .ok (.invokestatic 103, 3) := by decide +kernel
theorem dX0_spoken_91 : decode cX0_spoken 91 = .ok (.iadd, 1) := by decide +kernel
theorem dX0_spoken_92 : decode cX0_spoken 92 = .ok (.invokestatic 109, 3) := by decide +kernel
theorem dX0_spoken_95 : decode cX0_spoken 95 = .ok (.putfield 67, 3) := by decide +kernel
theorem dX0_spoken_98 : decode cX0_spoken 98 = .ok (.iconst 2, 1) := by decide +kernel
theorem dX0_spoken_99 : decode cX0_spoken 99 = .ok (.aload_n 0, 1) := by decide +kernel
theorem dX0_spoken_100 : decode cX0_spoken 100 = .ok (.getfield 67, 3) := by decide +kernel
theorem dX0_spoken_103 : decode cX0_spoken 103 = .ok (.imul, 1) := by decide +kernel
theorem dX0_spoken_104 : decode cX0_spoken 104 = .ok (.invokestatic 109, 3) := by decide +kernel
theorem dX0_spoken_107 : decode cX0_spoken 107 = .ok (.bipush (-8), 2) := by decide +kernel
theorem dX0_spoken_109 : decode cX0_spoken 109 = .ok (.iand, 1) := by decide +kernel
theorem dX0_spoken_110 : decode cX0_spoken 110 = .ok (.ireturn, 1) := by decide +kernel
theorem dX1_init_0 : decode cX1_init 0 = .ok (.aload_n 0, 1) := by decide +kernel
theorem dX1_init_1 : decode cX1_init 1 = .ok (.invokespecial 3, 3) := by decide +kernel
theorem dX1_init_4 : decode cX1_init 4 = .ok (.aload_n 0, 1) := by decide +kernel
theorem dX1_init_5 : decode cX1_init 5 = .ok (.new 9, 3) := by decide +kernel
theorem dX1_init_8 : decode cX1_init 8 = .ok (.dup, 1) := by decide +kernel
theorem dX1_init_9 : decode cX1_init 9 = .ok (.invokespecial 11, 3) := by decide +kernel
theorem dX1_init_12 : decode cX1_init 12 = .ok (.putfield 12, 3) := by decide +kernel
theorem dX1_init_15 : decode cX1_init 15 = .ok (.aload_n 0, 1) := by decide +kernel
theorem dX1_init_16 : decode cX1_init 16 = .ok (.new 18, 3) := by decide +kernel
theorem dX1_init_19 : decode cX1_init 19 = .ok (.dup, 1) := by decide +kernel
theorem dX1_init_20 : decode cX1_init 20 = .ok (.invokespecial 20, 3) := by decide +kernel
theorem dX1_init_23 : decode cX1_init 23 = .ok (.putfield 21, 3) := by decide +kernel
theorem dX1_init_26 : decode cX1_init 26 = .ok (.aload_n 0, 1) := by decide +kernel
theorem dX1_init_27 : decode cX1_init 27 = .ok (.new 25, 3) := by decide +kernel
theorem dX1_init_30 : decode cX1_init 30 = .ok (.dup, 1) := by decide +kernel
theorem dX1_init_31 : decode cX1_init 31 = .ok (.invokespecial 27, 3) := by decide +kernel
theorem dX1_init_34 : decode cX1_init 34 = .ok (.putfield 28, 3) := by decide +kernel
theorem dX1_init_37 : decode cX1_init 37 = .ok (.aload_n 0, 1) := by decide +kernel
theorem dX1_init_38 : decode cX1_init 38 = .ok (.new 32, 3) := by decide +kernel
theorem dX1_init_41 : decode cX1_init 41 = .ok (.dup, 1) := by decide +kernel
theorem dX1_init_42 : decode cX1_init 42 = .ok (.invokespecial 34, 3) := by decide +kernel
theorem dX1_init_45 : decode cX1_init 45 = .ok (.putfield 35, 3) := by decide +kernel
theorem dX1_init_48 : decode cX1_init 48 = .ok (.aload_n 0, 1) := by decide +kernel
theorem dX1_init_49 : decode cX1_init 49 = .ok (.new 39, 3) := by decide +kernel
theorem dX1_init_52 : decode cX1_init 52 = .ok (.dup, 1) := by decide +kernel
theorem dX1_init_53 : decode cX1_init 53 = .ok (.invokespecial 41, 3) := by decide +kernel
theorem dX1_init_56 : decode cX1_init 56 = .ok (.putfield 42, 3) := by decide +kernel
theorem dX1_init_59 : decode cX1_init 59 = .ok (.aload_n 0, 1) := by decide +kernel
theorem dX1_init_60 : decode cX1_init 60 = .ok (.new 46, 3) := by decide +kernel
theorem dX1_init_63 : decode cX1_init 63 = .ok (.dup, 1) := by decide +kernel
theorem dX1_init_64 : decode cX1_init 64 = .ok (.invokespecial 48, 3) := by decide +kernel
theorem dX1_init_67 : decode cX1_init 67 = .ok (.putfield 49, 3) := by decide +kernel
theorem dX1_init_70 : decode cX1_init 70 = .ok (.aload_n 0, 1) := by decide +kernel
theorem dX1_init_71 : decode cX1_init 71 = .ok (.new 53, 3) := by decide +kernel
theorem dX1_init_74 : decode cX1_init 74 = .ok (.dup, 1) := by decide +kernel
theorem dX1_init_75 : decode cX1_init 75 = .ok (.invokespecial 55, 3) := by decide +kernel
theorem dX1_init_78 : decode cX1_init 78 = .ok (.putfield 56, 3) := by decide +kernel
theorem dX1_init_81 : decode cX1_init 81 = .ok (.aload_n 0, 1) := by decide +kernel
theorem dX1_init_82 : decode cX1_init 82 = .ok (.sipush 160, 3) := by decide +kernel
theorem dX1_init_85 : decode cX1_init 85 = .ok (.newarray .int, 2) := by decide +kernel
theorem dX1_init_87 : decode cX1_init 87 = .ok (.putfield 60, 3) := by decide +kernel
theorem dX1_init_90 : decode cX1_init 90 = .ok (.aload_n 0, 1) := by decide +kernel
theorem dX1_init_91 : decode cX1_init 91 = .ok (.bipush 8, 2) := by decide +kernel
theorem dX1_init_93 : decode cX1_init 93 = .ok (.newarray .int, 2) := by decide +kernel
theorem dX1_init_95 : decode cX1_init 95 = .ok (.putfield 64, 3) := by decide +kernel
theorem dX1_init_98 : decode cX1_init 98 = .ok (.return_, 1) := by decide +kernel
theorem dX1_describe_0 : decode cX1_describe 0 = .ok (.aload_n 0, 1) := by decide +kernel
theorem dX1_describe_1 : decode cX1_describe 1 = .ok (.getfield 12, 3) := by decide +kernel
theorem dX1_describe_4 : decode cX1_describe 4 = .ok (.aload_n 1, 1) := by decide +kernel
theorem dX1_describe_5 : decode cX1_describe 5 = .ok (.aload_n 0, 1) := by decide +kernel
theorem dX1_describe_6 : decode cX1_describe 6 = .ok (.getfield 60, 3) := by decide +kernel
theorem dX1_describe_9 : decode cX1_describe 9 = .ok (.invokevirtual 67, 3) := by decide +kernel
theorem dX1_describe_12 : decode cX1_describe 12 = .ok (.aload_n 0, 1) := by decide +kernel
theorem dX1_describe_13 : decode cX1_describe 13 = .ok (.getfield 21, 3) := by decide +kernel
theorem dX1_describe_16 : decode cX1_describe 16 = .ok (.aload_n 0, 1) := by decide +kernel
theorem dX1_describe_17 : decode cX1_describe 17 = .ok (.getfield 60, 3) := by decide +kernel
theorem dX1_describe_20 : decode cX1_describe 20 = .ok (.aload_n 2, 1) := by decide +kernel
theorem dX1_describe_21 : decode cX1_describe 21 = .ok (.invokevirtual 71, 3) := by decide +kernel
theorem dX1_describe_24 : decode cX1_describe 24 = .ok (.aload_n 0, 1) := by decide +kernel
theorem dX1_describe_25 : decode cX1_describe 25 = .ok (.getfield 28, 3) := by decide +kernel
theorem dX1_describe_28 : decode cX1_describe 28 = .ok (.aload_n 2, 1) := by decide +kernel
theorem dX1_describe_29 : decode cX1_describe 29 = .ok (.invokevirtual 74, 3) := by decide +kernel
theorem dX1_describe_32 : decode cX1_describe 32 = .ok (.aload_n 0, 1) := by decide +kernel
theorem dX1_describe_33 : decode cX1_describe 33 = .ok (.invokevirtual 78, 3) := by decide +kernel
theorem dX1_describe_36 : decode cX1_describe 36 = .ok (.iconst 0, 1) := by decide +kernel
theorem dX1_describe_37 : decode cX1_describe 37 = .ok (.istore_n 3, 1) := by decide +kernel
theorem dX1_describe_38 : decode cX1_describe 38 = .ok (.iload_n 3, 1) := by decide +kernel
theorem dX1_describe_39 : decode cX1_describe 39 = .ok (.iconst 4, 1) := by decide +kernel
theorem dX1_describe_40 : decode cX1_describe 40 = .ok (.if_icmp .ge 15, 3) := by decide +kernel
theorem dX1_describe_43 : decode cX1_describe 43 = .ok (.aload_n 0, 1) := by decide +kernel
theorem dX1_describe_44 : decode cX1_describe 44 = .ok (.iload_n 3, 1) := by decide +kernel
theorem dX1_describe_45 : decode cX1_describe 45 = .ok (.aload_n 2, 1) := by decide +kernel
theorem dX1_describe_46 : decode cX1_describe 46 = .ok (.invokevirtual 81, 3) := by decide +kernel
theorem dX1_describe_49 : decode cX1_describe 49 = .ok (.iinc 3 1, 3) := by decide +kernel
theorem dX1_describe_52 : decode cX1_describe 52 = .ok (.goto (-14), 3) := by decide +kernel
theorem dX1_describe_55 : decode cX1_describe 55 = .ok (.aload_n 0, 1) := by decide +kernel
theorem dX1_describe_56 : decode cX1_describe 56 = .ok (.getfield 35, 3) := by decide +kernel
theorem dX1_describe_59 : decode cX1_describe 59 = .ok (.invokevirtual 85, 3) := by decide +kernel
theorem dX1_describe_62 : decode cX1_describe 62 = .ok (.aload_n 0, 1) := by decide +kernel
theorem dX1_describe_63 : decode cX1_describe 63 = .ok (.dup, 1) := by decide +kernel
theorem dX1_describe_64 : decode cX1_describe 64 = .ok (.getfield 88, 3) := by decide +kernel
theorem dX1_describe_67 : decode cX1_describe 67 = .ok (.iconst 1, 1) := by decide +kernel
theorem dX1_describe_68 : decode cX1_describe 68 = .ok (.iadd, 1) := by decide +kernel
theorem dX1_describe_69 : decode cX1_describe 69 = .ok (.putfield 88, 3) := by decide +kernel
theorem dX1_describe_72 : decode cX1_describe 72 = .ok (.return_, 1) := by decide +kernel
theorem dX1_forget_0 : decode cX1_forget 0 = .ok (.aload_n 0, 1) := by decide +kernel
theorem dX1_forget_1 : decode cX1_forget 1 = .ok (.getfield 12, 3) := by decide +kernel
theorem dX1_forget_4 : decode cX1_forget 4 = .ok (.invokevirtual 92, 3) := by decide +kernel
theorem dX1_forget_7 : decode cX1_forget 7 = .ok (.aload_n 0, 1) := by decide +kernel
theorem dX1_forget_8 : decode cX1_forget 8 = .ok (.getfield 28, 3) := by decide +kernel
theorem dX1_forget_11 : decode cX1_forget 11 = .ok (.invokevirtual 95, 3) := by decide +kernel
theorem dX1_forget_14 : decode cX1_forget 14 = .ok (.aload_n 0, 1) := by decide +kernel
theorem dX1_forget_15 : decode cX1_forget 15 = .ok (.getfield 35, 3) := by decide +kernel
theorem dX1_forget_18 : decode cX1_forget 18 = .ok (.invokevirtual 96, 3) := by decide +kernel
theorem dX1_forget_21 : decode cX1_forget 21 = .ok (.aload_n 0, 1) := by decide +kernel
theorem dX1_forget_22 : decode cX1_forget 22 = .ok (.getfield 64, 3) := by decide +kernel
theorem dX1_forget_25 : decode cX1_forget 25 = .ok (.iconst 0, 1) := by decide +kernel
theorem dX1_forget_26 : decode cX1_forget 26 = .ok (.invokestatic 97, 3) := by decide +kernel
theorem dX1_forget_29 : decode cX1_forget 29 = .ok (.aload_n 0, 1) := by decide +kernel
theorem dX1_forget_30 : decode cX1_forget 30 = .ok (.iconst 0, 1) := by decide +kernel
theorem dX1_forget_31 : decode cX1_forget 31 = .ok (.putfield 88, 3) := by decide +kernel
theorem dX1_forget_34 : decode cX1_forget 34 = .ok (.return_, 1) := by decide +kernel
theorem dX1_takeAway_0 : decode cX1_takeAway 0 = .ok (.iconst 0, 1) := by decide +kernel
theorem dX1_takeAway_1 : decode cX1_takeAway 1 = .ok (.istore_n 1, 1) := by decide +kernel
theorem dX1_takeAway_2 : decode cX1_takeAway 2 = .ok (.iconst 0, 1) := by decide +kernel
theorem dX1_takeAway_3 : decode cX1_takeAway 3 = .ok (.istore_n 2, 1) := by decide +kernel
theorem dX1_takeAway_4 : decode cX1_takeAway 4 = .ok (.iload_n 2, 1) := by decide +kernel
theorem dX1_takeAway_5 : decode cX1_takeAway 5 = .ok (.getstatic 103, 3) := by decide +kernel
theorem dX1_takeAway_8 : decode cX1_takeAway 8 = .ok (.arraylength, 1) := by decide +kernel
theorem dX1_takeAway_9 : decode cX1_takeAway 9 = .ok (.if_icmp .ge 48, 3) := by decide +kernel
theorem dX1_takeAway_12 : decode cX1_takeAway 12 = .ok (.aload_n 0, 1) := by decide +kernel
theorem dX1_takeAway_13 : decode cX1_takeAway 13 = .ok (.getfield 28, 3) := by decide +kernel
theorem dX1_takeAway_16 : decode cX1_takeAway 16 = .ok (.iload_n 2, 1) := by decide +kernel
theorem dX1_takeAway_17 : decode cX1_takeAway 17 = .ok (.invokevirtual 106, 3) := by decide +kernel
theorem dX1_takeAway_20 : decode cX1_takeAway 20 = .ok (.iload_n 1, 1) := by decide +kernel
theorem dX1_takeAway_21 : decode cX1_takeAway 21 = .ok (.getstatic 103, 3) := by decide +kernel
theorem dX1_takeAway_24 : decode cX1_takeAway 24 = .ok (.iload_n 2, 1) := by decide +kernel
theorem dX1_takeAway_25 : decode cX1_takeAway 25 = .ok (.iaload, 1) := by decide +kernel
theorem dX1_takeAway_26 : decode cX1_takeAway 26 = .ok (.if_icmp .ge 25, 3) := by decide +kernel
theorem dX1_takeAway_29 : decode cX1_takeAway 29 = .ok (.aload_n 0, 1) := by decide +kernel
theorem dX1_takeAway_30 : decode cX1_takeAway 30 = .ok (.getfield 60, 3) := by decide +kernel
theorem dX1_takeAway_33 : decode cX1_takeAway 33 = .ok (.iload_n 1, 1) := by decide +kernel
theorem dX1_takeAway_34 : decode cX1_takeAway 34 = .ok (.aload_n 0, 1) := by decide +kernel
theorem dX1_takeAway_35 : decode cX1_takeAway 35 = .ok (.aload_n 0, 1) := by decide +kernel
theorem dX1_takeAway_36 : decode cX1_takeAway 36 = .ok (.getfield 60, 3) := by decide +kernel
theorem dX1_takeAway_39 : decode cX1_takeAway 39 = .ok (.iload_n 1, 1) := by decide +kernel
theorem dX1_takeAway_40 : decode cX1_takeAway 40 = .ok (.iaload, 1) := by decide +kernel
theorem dX1_takeAway_41 : decode cX1_takeAway 41 = .ok (.invokevirtual 110, 3) := by decide +kernel
theorem dX1_takeAway_44 : decode cX1_takeAway 44 = .ok (.iastore, 1) := by decide +kernel
theorem dX1_takeAway_45 : decode cX1_takeAway 45 = .ok (.iinc 1 1, 3) := by decide +kernel
theorem dX1_takeAway_48 : decode cX1_takeAway 48 = .ok (.goto (-28), 3) := by decide +kernel
theorem dX1_takeAway_51 : decode cX1_takeAway 51 = .ok (.iinc 2 1, 3) := by decide +kernel
theorem dX1_takeAway_54 : decode cX1_takeAway 54 = .ok (.goto (-50), 3) := by decide +kernel
theorem dX1_takeAway_57 : decode cX1_takeAway 57 = .ok (.return_, 1) := by decide +kernel
theorem dX1_left_0 : decode cX1_left 0 = .ok (.iload_n 1, 1) := by decide +kernel
theorem dX1_left_1 : decode cX1_left 1 = .ok (.istore_n 2, 1) := by decide +kernel
theorem dX1_left_2 : decode cX1_left 2 = .ok (.iload_n 1, 1) := by decide +kernel
theorem dX1_left_3 : decode cX1_left 3 = .ok (.istore_n 3, 1) := by decide +kernel
theorem dX1_left_4 : decode cX1_left 4 = .ok (.iconst 0, 1) := by decide +kernel
theorem dX1_left_5 : decode cX1_left 5 = .ok (.istore 4, 2) := by decide +kernel
theorem dX1_left_7 : decode cX1_left 7 = .ok (.iload 4, 2) := by decide +kernel
theorem dX1_left_9 : decode cX1_left 9 = .ok (.bipush 8, 2) := by decide +kernel
theorem dX1_left_11 : decode cX1_left 11 = .ok (.if_icmp .ge 64, 3) := by decide +kernel
theorem dX1_left_14 : decode cX1_left 14 = .ok (.aload_n 0, 1) := by decide +kernel
theorem dX1_left_15 : decode cX1_left 15 = .ok (.getfield 28, 3) := by decide +kernel
theorem dX1_left_18 : decode cX1_left 18 = .ok (.getfield 114, 3) := by decide +kernel
theorem dX1_left_21 : decode cX1_left 21 = .ok (.iload 4, 2) := by decide +kernel
theorem dX1_left_23 : decode cX1_left 23 = .ok (.iaload, 1) := by decide +kernel
theorem dX1_left_24 : decode cX1_left 24 = .ok (.istore 5, 2) := by decide +kernel
theorem dX1_left_26 : decode cX1_left 26 = .ok (.aload_n 0, 1) := by decide +kernel
theorem dX1_left_27 : decode cX1_left 27 = .ok (.getfield 64, 3) := by decide +kernel
theorem dX1_left_30 : decode cX1_left 30 = .ok (.iload 4, 2) := by decide +kernel
theorem dX1_left_32 : decode cX1_left 32 = .ok (.iaload, 1) := by decide +kernel
theorem dX1_left_33 : decode cX1_left 33 = .ok (.istore 6, 2) := by decide +kernel
theorem dX1_left_35 : decode cX1_left 35 = .ok (.aload_n 0, 1) := by decide +kernel
theorem dX1_left_36 : decode cX1_left 36 = .ok (.getfield 64, 3) := by decide +kernel
theorem dX1_left_39 : decode cX1_left 39 = .ok (.iload 4, 2) := by decide +kernel
theorem dX1_left_41 : decode cX1_left 41 = .ok (.iload_n 3, 1) := by decide +kernel
theorem dX1_left_42 : decode cX1_left 42 = .ok (.iastore, 1) := by decide +kernel
theorem dX1_left_43 : decode cX1_left 43 = .ok (.iload 6, 2) := by decide +kernel
theorem dX1_left_45 : decode cX1_left 45 = .ok (.iload 5, 2) := by decide +kernel
theorem dX1_left_47 : decode cX1_left 47 = .ok (.iload_n 2, 1) := by decide +kernel
theorem dX1_left_48 : decode cX1_left 48 = .ok (.invokestatic 117, 3) := by decide +kernel
theorem dX1_left_51 : decode cX1_left 51 = .ok (.iadd, 1) := by decide +kernel
theorem dX1_left_52 : decode cX1_left 52 = .ok (.invokestatic 123, 3) := by decide +kernel
theorem dX1_left_55 : decode cX1_left 55 = .ok (.istore_n 3, 1) := by decide +kernel
theorem dX1_left_56 : decode cX1_left 56 = .ok (.iload_n 2, 1) := by decide +kernel
theorem dX1_left_57 : decode cX1_left 57 = .ok (.iload 5, 2) := by decide +kernel
theorem dX1_left_59 : decode cX1_left 59 = .ok (.iload 6, 2) := by decide +kernel
theorem dX1_left_61 : decode cX1_left 61 = .ok (.invokestatic 117, 3) := by decide +kernel
theorem dX1_left_64 : decode cX1_left 64 = .ok (.iadd, 1) := by decide +kernel
theorem dX1_left_65 : decode cX1_left 65 = .ok (.invokestatic 123, 3) := by decide +kernel
theorem dX1_left_68 : decode cX1_left 68 = .ok (.istore_n 2, 1) := by decide +kernel
theorem dX1_left_69 : decode cX1_left 69 = .ok (.iinc 4 1, 3) := by decide +kernel
theorem dX1_left_72 : decode cX1_left 72 = .ok (.goto (-65), 3) := by decide +kernel
theorem dX1_left_75 : decode cX1_left 75 = .ok (.iload_n 2, 1) := by decide +kernel
theorem dX1_left_76 : decode cX1_left 76 = .ok (.ireturn, 1) := by decide +kernel
theorem dX1_describePart_0 : decode cX1_describePart 0 = .ok (.bipush 8, 2) := by decide +kernel
theorem dX1_describePart_2 : decode cX1_describePart 2 = .ok (.bipush 17, 2) := by decide +kernel
theorem dX1_describePart_4 : decode cX1_describePart 4 = .ok (.iload_n 1, 1) := by decide +kernel
theorem dX1_describePart_5 : decode cX1_describePart 5 = .ok (.imul, 1) := by decide +kernel
theorem dX1_describePart_6 : decode cX1_describePart 6 = .ok (.iadd, 1) := by decide +kernel
theorem dX1_describePart_7 : decode cX1_describePart 7 = .ok (.istore_n 3, 1) := by decide +kernel
theorem dX1_describePart_8 : decode cX1_describePart 8 = .ok (.aload_n 0, 1) := by decide +kernel
theorem dX1_describePart_9 : decode cX1_describePart 9 = .ok (.getfield 42, 3) := by decide +kernel
theorem dX1_describePart_12 : decode cX1_describePart 12 = .ok (.aload_n 0, 1) := by decide +kernel
theorem dX1_describePart_13 : decode cX1_describePart 13 = .ok (.getfield 60, 3) := by decide +kernel
theorem dX1_describePart_16 : decode cX1_describePart 16 = .ok (.iload_n 1, 1) := by decide +kernel
theorem dX1_describePart_17 : decode cX1_describePart 17 = .ok (.aload_n 0, 1) := by decide +kernel
theorem dX1_describePart_18 : decode cX1_describePart 18 = .ok (.getfield 35, 3) := by decide +kernel
theorem dX1_describePart_21 : decode cX1_describePart 21 = .ok (.invokevirtual 126, 3) := by decide +kernel
theorem dX1_describePart_24 : decode cX1_describePart 24 = .ok (.aload_n 0, 1) := by decide +kernel
theorem dX1_describePart_25 : decode cX1_describePart 25 = .ok (.getfield 35, 3) := by decide +kernel
theorem dX1_describePart_28 : decode cX1_describePart 28 = .ok (.iload_n 1, 1) := by decide +kernel
theorem dX1_describePart_29 : decode cX1_describePart 29 = .ok (.aload_n 0, 1) := by decide +kernel
theorem dX1_describePart_30 : decode cX1_describePart 30 = .ok (.getfield 42, 3) := by decide +kernel
theorem dX1_describePart_33 : decode cX1_describePart 33 = .ok (.getfield 130, 3) := by decide +kernel
theorem dX1_describePart_36 : decode cX1_describePart 36 = .ok (.aload_n 0, 1) := by decide +kernel
theorem dX1_describePart_37 : decode cX1_describePart 37 = .ok (.getfield 42, 3) := by decide +kernel
theorem dX1_describePart_40 : decode cX1_describePart 40 = .ok (.getfield 133, 3) := by decide +kernel
theorem dX1_describePart_43 : decode cX1_describePart 43 = .ok (.invokevirtual 136, 3) := by decide +kernel
theorem dX1_describePart_46 : decode cX1_describePart 46 = .ok (.aload_n 0, 1) := by decide +kernel
theorem dX1_describePart_47 : decode cX1_describePart 47 = .ok (.getfield 49, 3) := by decide +kernel
theorem dX1_describePart_50 : decode cX1_describePart 50 = .ok (.aload_n 0, 1) := by decide +kernel
theorem dX1_describePart_51 : decode cX1_describePart 51 = .ok (.getfield 60, 3) := by decide +kernel
theorem dX1_describePart_54 : decode cX1_describePart 54 = .ok (.iload_n 1, 1) := by decide +kernel
theorem dX1_describePart_55 : decode cX1_describePart 55 = .ok (.aload_n 0, 1) := by decide +kernel
theorem dX1_describePart_56 : decode cX1_describePart 56 = .ok (.getfield 35, 3) := by decide +kernel
theorem dX1_describePart_59 : decode cX1_describePart 59 = .ok (.getfield 140, 3) := by decide +kernel
theorem dX1_describePart_62 : decode cX1_describePart 62 = .ok (.invokevirtual 143, 3) := by decide +kernel
theorem dX1_describePart_65 : decode cX1_describePart 65 = .ok (.aload_n 2, 1) := by decide +kernel
theorem dX1_describePart_66 : decode cX1_describePart 66 = .ok (.iload_n 3, 1) := by decide +kernel
theorem dX1_describePart_67 : decode cX1_describePart 67 = .ok (.aload_n 0, 1) := by decide +kernel
theorem dX1_describePart_68 : decode cX1_describePart 68 = .ok (.getfield 42, 3) := by decide +kernel
theorem dX1_describePart_71 : decode cX1_describePart 71 = .ok (.getfield 130, 3) := by decide +kernel
theorem dX1_describePart_74 : decode cX1_describePart 74 = .ok (.iastore, 1) := by decide +kernel
theorem dX1_describePart_75 : decode cX1_describePart 75 = .ok (.aload_n 2, 1) := by decide +kernel
theorem dX1_describePart_76 : decode cX1_describePart 76 = .ok (.iload_n 3, 1) := by decide +kernel
theorem dX1_describePart_77 : decode cX1_describePart 77 = .ok (.iconst 1, 1) := by decide +kernel
theorem dX1_describePart_78 : decode cX1_describePart 78 = .ok (.iadd, 1) := by decide +kernel
theorem dX1_describePart_79 : decode cX1_describePart 79 = .ok (.aload_n 0, 1) := by decide +kernel
theorem dX1_describePart_80 : decode cX1_describePart 80 = .ok (.getfield 42, 3) := by decide +kernel
theorem dX1_describePart_83 : decode cX1_describePart 83 = .ok (.getfield 133, 3) := by decide +kernel
theorem dX1_describePart_86 : decode cX1_describePart 86 = .ok (.iastore, 1) := by decide +kernel
theorem dX1_describePart_87 : decode cX1_describePart 87 = .ok (.aload_n 2, 1) := by decide +kernel
theorem dX1_describePart_88 : decode cX1_describePart 88 = .ok (.iload_n 3, 1) := by decide +kernel
theorem dX1_describePart_89 : decode cX1_describePart 89 = .ok (.iconst 2, 1) := by decide +kernel
theorem dX1_describePart_90 : decode cX1_describePart 90 = .ok (.iadd, 1) := by decide +kernel
theorem dX1_describePart_91 : decode cX1_describePart 91 = .ok (.aload_n 0, 1) := by decide +kernel
theorem dX1_describePart_92 : decode cX1_describePart 92 = .ok (.getfield 49, 3) := by decide +kernel
theorem dX1_describePart_95 : decode cX1_describePart 95 = .ok (.getfield 147, 3) := by decide +kernel
theorem dX1_describePart_98 : decode cX1_describePart 98 = .ok (.iastore, 1) := by decide +kernel
theorem dX1_describePart_99 : decode cX1_describePart 99 = .ok (.aload_n 2, 1) := by decide +kernel
theorem dX1_describePart_100 : decode cX1_describePart 100 = .ok (.iload_n 3, 1) := by decide +kernel
theorem dX1_describePart_101 : decode cX1_describePart 101 = .ok (.iconst 3, 1) := by decide +kernel
theorem dX1_describePart_102 : decode cX1_describePart 102 = .ok (.iadd, 1) := by decide +kernel
theorem dX1_describePart_103 : decode cX1_describePart 103 = .ok (.aload_n 0, 1) := by decide +kernel
theorem dX1_describePart_104 : decode cX1_describePart 104 = .ok (.getfield 49, 3) := by decide +kernel
theorem dX1_describePart_107 : decode cX1_describePart 107 = .ok (.getfield 150, 3) := by decide +kernel
theorem dX1_describePart_110 : decode cX1_describePart 110 = .ok (.iastore, 1) := by decide +kernel
theorem dX1_describePart_111 : decode cX1_describePart 111 = .ok (.aload_n 0, 1) := by decide +kernel
theorem dX1_describePart_112 : decode cX1_describePart 112 = .ok (.getfield 56, 3) := by decide +kernel
theorem dX1_describePart_115 : decode cX1_describePart 115 = .ok (.aload_n 0, 1) := by decide +kernel
theorem dX1_describePart_116 : decode cX1_describePart 116 = .ok (.getfield 49, 3) := by decide +kernel
theorem dX1_describePart_119 : decode cX1_describePart 119 = .ok (.getfield 150, 3) := by decide +kernel
theorem dX1_describePart_122 : decode cX1_describePart 122 = .ok (.invokevirtual 153, 3) := by decide +kernel
theorem dX1_describePart_125 : decode cX1_describePart 125 = .ok (.iconst 0, 1) := by decide +kernel
theorem dX1_describePart_126 : decode cX1_describePart 126 = .ok (.istore 4, 2) := by decide +kernel
theorem dX1_describePart_128 : decode cX1_describePart 128 = .ok (.iload 4, 2) := by decide +kernel
theorem dX1_describePart_130 : decode cX1_describePart 130 = .ok (.bipush 13, 2) := by decide +kernel
theorem dX1_describePart_132 : decode cX1_describePart 132 = .ok (.if_icmp .ge 44, 3) := by decide +kernel
theorem dX1_describePart_135 : decode cX1_describePart 135 = .ok (.aload_n 2, 1) := by decide +kernel
theorem dX1_describePart_136 : decode cX1_describePart 136 = .ok (.iload_n 3, 1) := by decide +kernel
theorem dX1_describePart_137 : decode cX1_describePart 137 = .ok (.iconst 4, 1) := by decide +kernel
theorem dX1_describePart_138 : decode cX1_describePart 138 = .ok (.iadd, 1) := by decide +kernel
theorem dX1_describePart_139 : decode cX1_describePart 139 = .ok (.iload 4, 2) := by decide +kernel
theorem dX1_describePart_141 : decode cX1_describePart 141 = .ok (.iadd, 1) := by decide +kernel
theorem dX1_describePart_142 : decode cX1_describePart 142 = .ok (.aload_n 0, 1) := by decide +kernel
theorem dX1_describePart_143 : decode cX1_describePart 143 = .ok (.getfield 56, 3) := by decide +kernel
theorem dX1_describePart_146 : decode cX1_describePart 146 = .ok (.aload_n 0, 1) := by decide +kernel
theorem dX1_describePart_147 : decode cX1_describePart 147 = .ok (.getfield 49, 3) := by decide +kernel
theorem dX1_describePart_150 : decode cX1_describePart 150 = .ok (.getfield 156, 3) := by decide +kernel
theorem dX1_describePart_153 : decode cX1_describePart 153 = .ok (.aload_n 0, 1) := by decide +kernel
theorem dX1_describePart_154 : decode cX1_describePart 154 = .ok (.getfield 49, 3) := by decide +kernel
theorem dX1_describePart_157 : decode cX1_describePart 157 = .ok (.getfield 147, 3) := by decide +kernel
theorem dX1_describePart_160 : decode cX1_describePart 160 = .ok (.iconst 3, 1) := by decide +kernel
theorem dX1_describePart_161 : decode cX1_describePart 161 = .ok (.iload 4, 2) := by decide +kernel
theorem dX1_describePart_163 : decode cX1_describePart 163 = .ok (.imul, 1) := by decide +kernel
theorem dX1_describePart_164 : decode cX1_describePart 164 = .ok (.iadd, 1) := by decide +kernel
theorem dX1_describePart_165 : decode cX1_describePart 165 = .ok (.iaload, 1) := by decide +kernel
theorem dX1_describePart_166 : decode cX1_describePart 166 = .ok (.invokevirtual 157, 3) := by decide +kernel
theorem dX1_describePart_169 : decode cX1_describePart 169 = .ok (.iastore, 1) := by decide +kernel
theorem dX1_describePart_170 : decode cX1_describePart 170 = .ok (.iinc 4 1, 3) := by decide +kernel
theorem dX1_describePart_173 : decode cX1_describePart 173 = .ok (.goto (-45), 3) := by decide +kernel
theorem dX1_describePart_176 : decode cX1_describePart 176 = .ok (.aload_n 0, 1) := by decide +kernel
theorem dX1_describePart_177 : decode cX1_describePart 177 = .ok (.getfield 56, 3) := by decide +kernel
theorem dX1_describePart_180 : decode cX1_describePart 180 = .ok (.aload_n 2, 1) := by decide +kernel
theorem dX1_describePart_181 : decode cX1_describePart 181 = .ok (.iload_n 3, 1) := by decide +kernel
theorem dX1_describePart_182 : decode cX1_describePart 182 = .ok (.invokevirtual 160, 3) := by decide +kernel
theorem dX1_describePart_185 : decode cX1_describePart 185 = .ok (.aload_n 0, 1) := by decide +kernel
theorem dX1_describePart_186 : decode cX1_describePart 186 = .ok (.getfield 35, 3) := by decide +kernel
theorem dX1_describePart_189 : decode cX1_describePart 189 = .ok (.iload_n 1, 1) := by decide +kernel
theorem dX1_describePart_190 : decode cX1_describePart 190 = .ok (.aload_n 0, 1) := by decide +kernel
theorem dX1_describePart_191 : decode cX1_describePart 191 = .ok (.getfield 56, 3) := by decide +kernel
theorem dX1_describePart_194 : decode cX1_describePart 194 = .ok (.getfield 163, 3) := by decide +kernel
theorem dX1_describePart_197 : decode cX1_describePart 197 = .ok (.invokevirtual 166, 3) := by decide +kernel
theorem dX1_describePart_200 : decode cX1_describePart 200 = .ok (.return_, 1) := by decide +kernel
theorem dX2_init_0 : decode cX2_init 0 = .ok (.aload_n 0, 1) := by decide +kernel
theorem dX2_init_1 : decode cX2_init 1 = .ok (.invokespecial 3, 3) := by decide +kernel
theorem dX2_init_4 : decode cX2_init 4 = .ok (.aload_n 0, 1) := by decide +kernel
theorem dX2_init_5 : decode cX2_init 5 = .ok (.bipush 8, 2) := by decide +kernel
theorem dX2_init_7 : decode cX2_init 7 = .ok (.newarray .int, 2) := by decide +kernel
theorem dX2_init_9 : decode cX2_init 9 = .ok (.putfield 9, 3) := by decide +kernel
theorem dX2_init_12 : decode cX2_init 12 = .ok (.aload_n 0, 1) := by decide +kernel
theorem dX2_init_13 : decode cX2_init 13 = .ok (.bipush 8, 2) := by decide +kernel
theorem dX2_init_15 : decode cX2_init 15 = .ok (.newarray .int, 2) := by decide +kernel
theorem dX2_init_17 : decode cX2_init 17 = .ok (.putfield 15, 3) := by decide +kernel
theorem dX2_init_20 : decode cX2_init 20 = .ok (.aload_n 0, 1) := by decide +kernel
theorem dX2_init_21 : decode cX2_init 21 = .ok (.bipush 8, 2) := by decide +kernel
theorem dX2_init_23 : decode cX2_init 23 = .ok (.newarray .int, 2) := by decide +kernel
theorem dX2_init_25 : decode cX2_init 25 = .ok (.putfield 18, 3) := by decide +kernel
theorem dX2_init_28 : decode cX2_init 28 = .ok (.return_, 1) := by decide +kernel
theorem dX2_learn_0 : decode cX2_learn 0 = .ok (.iconst 0, 1) := by decide +kernel
theorem dX2_learn_1 : decode cX2_learn 1 = .ok (.istore_n 2, 1) := by decide +kernel
theorem dX2_learn_2 : decode cX2_learn 2 = .ok (.iload_n 2, 1) := by decide +kernel
theorem dX2_learn_3 : decode cX2_learn 3 = .ok (.bipush 8, 2) := by decide +kernel
theorem dX2_learn_5 : decode cX2_learn 5 = .ok (.if_icmp .ge 69, 3) := by decide +kernel
theorem dX2_learn_8 : decode cX2_learn 8 = .ok (.aload_n 0, 1) := by decide +kernel
theorem dX2_learn_9 : decode cX2_learn 9 = .ok (.getfield 15, 3) := by decide +kernel
theorem dX2_learn_12 : decode cX2_learn 12 = .ok (.iload_n 2, 1) := by decide +kernel
theorem dX2_learn_13 : decode cX2_learn 13 = .ok (.aload_n 0, 1) := by decide +kernel
theorem dX2_learn_14 : decode cX2_learn 14 = .ok (.getfield 9, 3) := by decide +kernel
theorem dX2_learn_17 : decode cX2_learn 17 = .ok (.iload_n 2, 1) := by decide +kernel
theorem dX2_learn_18 : decode cX2_learn 18 = .ok (.iaload, 1) := by decide +kernel
theorem dX2_learn_19 : decode cX2_learn 19 = .ok (.iastore, 1) := by decide +kernel
theorem dX2_learn_20 : decode cX2_learn 20 = .ok (.aload_n 1, 1) := by decide +kernel
theorem dX2_learn_21 : decode cX2_learn 21 = .ok (.iload_n 2, 1) := by decide +kernel
theorem dX2_learn_22 : decode cX2_learn 22 = .ok (.iaload, 1) := by decide +kernel
theorem dX2_learn_23 : decode cX2_learn 23 = .ok (.getstatic 21, 3) := by decide +kernel
theorem dX2_learn_26 : decode cX2_learn 26 = .ok (.iload_n 2, 1) := by decide +kernel
theorem dX2_learn_27 : decode cX2_learn 27 = .ok (.iaload, 1) := by decide +kernel
theorem dX2_learn_28 : decode cX2_learn 28 = .ok (.iadd, 1) := by decide +kernel
theorem dX2_learn_29 : decode cX2_learn 29 = .ok (.invokestatic 24, 3) := by decide +kernel
theorem dX2_learn_32 : decode cX2_learn 32 = .ok (.sipush 1024, 3) := by decide +kernel
theorem dX2_learn_35 : decode cX2_learn 35 = .ok (.imul, 1) := by decide +kernel
theorem dX2_learn_36 : decode cX2_learn 36 = .ok (.istore_n 3, 1) := by decide +kernel
theorem dX2_learn_37 : decode cX2_learn 37 = .ok (.aload_n 0, 1) := by decide +kernel
theorem dX2_learn_38 : decode cX2_learn 38 = .ok (.getfield 9, 3) := by decide +kernel
theorem dX2_learn_41 : decode cX2_learn 41 = .ok (.iload_n 2, 1) := by decide +kernel
theorem dX2_learn_42 : decode cX2_learn 42 = .ok (.iconst 2, 1) := by decide +kernel
theorem dX2_learn_43 : decode cX2_learn 43 = .ok (.getstatic 30, 3) := by decide +kernel
theorem dX2_learn_46 : decode cX2_learn 46 = .ok (.iload_n 2, 1) := by decide +kernel
theorem dX2_learn_47 : decode cX2_learn 47 = .ok (.iaload, 1) := by decide +kernel
theorem dX2_learn_48 : decode cX2_learn 48 = .ok (.iload_n 3, 1) := by decide +kernel
theorem dX2_learn_49 : decode cX2_learn 49 = .ok (.iconst 2, 1) := by decide +kernel
theorem dX2_learn_50 : decode cX2_learn 50 = .ok (.getstatic 33, 3) := by decide +kernel
theorem dX2_learn_53 : decode cX2_learn 53 = .ok (.iload_n 2, 1) := by decide +kernel
theorem dX2_learn_54 : decode cX2_learn 54 = .ok (.iaload, 1) := by decide +kernel
theorem dX2_learn_55 : decode cX2_learn 55 = .ok (.imul, 1) := by decide +kernel
theorem dX2_learn_56 : decode cX2_learn 56 = .ok (.isub, 1) := by decide +kernel
theorem dX2_learn_57 : decode cX2_learn 57 = .ok (.invokestatic 24, 3) := by decide +kernel
theorem dX2_learn_60 : decode cX2_learn 60 = .ok (.invokestatic 36, 3) := by decide +kernel
theorem dX2_learn_63 : decode cX2_learn 63 = .ok (.imul, 1) := by decide +kernel
theorem dX2_learn_64 : decode cX2_learn 64 = .ok (.invokestatic 24, 3) := by decide +kernel
theorem dX2_learn_67 : decode cX2_learn 67 = .ok (.iastore, 1) := by decide +kernel
theorem dX2_learn_68 : decode cX2_learn 68 = .ok (.iinc 2 1, 3) := by decide +kernel
theorem dX2_learn_71 : decode cX2_learn 71 = .ok (.goto (-69), 3) := by decide +kernel
theorem dX2_learn_74 : decode cX2_learn 74 = .ok (.return_, 1) := by decide +kernel
theorem dX2_shape_0 : decode cX2_shape 0 = .ok (.iconst 0, 1) := by decide +kernel
theorem dX2_shape_1 : decode cX2_shape 1 = .ok (.istore_n 2, 1) := by decide +kernel
theorem dX2_shape_2 : decode cX2_shape 2 = .ok (.iload_n 2, 1) := by decide +kernel
theorem dX2_shape_3 : decode cX2_shape 3 = .ok (.bipush 8, 2) := by decide +kernel
theorem dX2_shape_5 : decode cX2_shape 5 = .ok (.if_icmp .ge 34, 3) := by decide +kernel
theorem dX2_shape_8 : decode cX2_shape 8 = .ok (.aload_n 0, 1) := by decide +kernel
theorem dX2_shape_9 : decode cX2_shape 9 = .ok (.getfield 18, 3) := by decide +kernel
theorem dX2_shape_12 : decode cX2_shape 12 = .ok (.iload_n 2, 1) := by decide +kernel
theorem dX2_shape_13 : decode cX2_shape 13 = .ok (.iload_n 1, 1) := by decide +kernel
theorem dX2_shape_14 : decode cX2_shape 14 = .ok (.aload_n 0, 1) := by decide +kernel
theorem dX2_shape_15 : decode cX2_shape 15 = .ok (.getfield 15, 3) := by decide +kernel
theorem dX2_shape_18 : decode cX2_shape 18 = .ok (.iload_n 2, 1) := by decide +kernel
theorem dX2_shape_19 : decode cX2_shape 19 = .ok (.iaload, 1) := by decide +kernel
theorem dX2_shape_20 : decode cX2_shape 20 = .ok (.aload_n 0, 1) := by decide +kernel
theorem dX2_shape_21 : decode cX2_shape 21 = .ok (.getfield 9, 3) := by decide +kernel
theorem dX2_shape_24 : decode cX2_shape 24 = .ok (.iload_n 2, 1) := by decide +kernel
theorem dX2_shape_25 : decode cX2_shape 25 = .ok (.iaload, 1) := by decide +kernel
theorem dX2_shape_26 : decode cX2_shape 26 = .ok (.invokestatic 40, 3) := by decide +kernel
theorem dX2_shape_29 : decode cX2_shape 29 = .ok (.invokestatic 44, 3) := by decide +kernel
theorem dX2_shape_32 : decode cX2_shape 32 = .ok (.iastore, 1) := by decide +kernel
theorem dX2_shape_33 : decode cX2_shape 33 = .ok (.iinc 2 1, 3) := by decide +kernel
theorem dX2_shape_36 : decode cX2_shape 36 = .ok (.goto (-34), 3) := by decide +kernel
theorem dX2_shape_39 : decode cX2_shape 39 = .ok (.return_, 1) := by decide +kernel
theorem dX2_forget_0 : decode cX2_forget 0 = .ok (.aload_n 0, 1) := by decide +kernel
theorem dX2_forget_1 : decode cX2_forget 1 = .ok (.getfield 9, 3) := by decide +kernel
theorem dX2_forget_4 : decode cX2_forget 4 = .ok (.iconst 0, 1) := by decide +kernel
theorem dX2_forget_5 : decode cX2_forget 5 = .ok (.invokestatic 47, 3) := by decide +kernel
theorem dX2_forget_8 : decode cX2_forget 8 = .ok (.return_, 1) := by decide +kernel
theorem dX2_between_0 : decode cX2_between 0 = .ok (.iload_n 1, 1) := by decide +kernel
theorem dX2_between_1 : decode cX2_between 1 = .ok (.iconst 2, 1) := by decide +kernel
theorem dX2_between_2 : decode cX2_between 2 = .ok (.ishr, 1) := by decide +kernel
theorem dX2_between_3 : decode cX2_between 3 = .ok (.iload_n 2, 1) := by decide +kernel
theorem dX2_between_4 : decode cX2_between 4 = .ok (.iconst 2, 1) := by decide +kernel
theorem dX2_between_5 : decode cX2_between 5 = .ok (.ishr, 1) := by decide +kernel
theorem dX2_between_6 : decode cX2_between 6 = .ok (.iadd, 1) := by decide +kernel
theorem dX2_between_7 : decode cX2_between 7 = .ok (.invokestatic 24, 3) := by decide +kernel
theorem dX2_between_10 : decode cX2_between 10 = .ok (.istore_n 3, 1) := by decide +kernel
theorem dX2_between_11 : decode cX2_between 11 = .ok (.iload_n 0, 1) := by decide +kernel
theorem dX2_between_12 : decode cX2_between 12 = .ok (.tableswitch 57 0 2 #[28, 37, 48], 28) := by decide +kernel
theorem dX2_between_40 : decode cX2_between 40 = .ok (.iload_n 3, 1) := by decide +kernel
theorem dX2_between_41 : decode cX2_between 41 = .ok (.iload_n 1, 1) := by decide +kernel
theorem dX2_between_42 : decode cX2_between 42 = .ok (.iconst 1, 1) := by decide +kernel
theorem dX2_between_43 : decode cX2_between 43 = .ok (.ishr, 1) := by decide +kernel
theorem dX2_between_44 : decode cX2_between 44 = .ok (.iadd, 1) := by decide +kernel
theorem dX2_between_45 : decode cX2_between 45 = .ok (.invokestatic 24, 3) := by decide +kernel
theorem dX2_between_48 : decode cX2_between 48 = .ok (.ireturn, 1) := by decide +kernel
theorem dX2_between_49 : decode cX2_between 49 = .ok (.iload_n 1, 1) := by decide +kernel
theorem dX2_between_50 : decode cX2_between 50 = .ok (.iconst 1, 1) := by decide +kernel
theorem dX2_between_51 : decode cX2_between 51 = .ok (.ishr, 1) := by decide +kernel
theorem dX2_between_52 : decode cX2_between 52 = .ok (.iload_n 2, 1) := by decide +kernel
theorem dX2_between_53 : decode cX2_between 53 = .ok (.iconst 1, 1) := by decide +kernel
theorem dX2_between_54 : decode cX2_between 54 = .ok (.ishr, 1) := by decide +kernel
theorem dX2_between_55 : decode cX2_between 55 = .ok (.iadd, 1) := by decide +kernel
theorem dX2_between_56 : decode cX2_between 56 = .ok (.invokestatic 24, 3) := by decide +kernel
theorem dX2_between_59 : decode cX2_between 59 = .ok (.ireturn, 1) := by decide +kernel
theorem dX2_between_60 : decode cX2_between 60 = .ok (.iload_n 3, 1) := by decide +kernel
theorem dX2_between_61 : decode cX2_between 61 = .ok (.iload_n 2, 1) := by decide +kernel
theorem dX2_between_62 : decode cX2_between 62 = .ok (.iconst 1, 1) := by decide +kernel
theorem dX2_between_63 : decode cX2_between 63 = .ok (.ishr, 1) := by decide +kernel
theorem dX2_between_64 : decode cX2_between 64 = .ok (.iadd, 1) := by decide +kernel
theorem dX2_between_65 : decode cX2_between 65 = .ok (.invokestatic 24, 3) := by decide +kernel
theorem dX2_between_68 : decode cX2_between 68 = .ok (.ireturn, 1) := by decide +kernel
theorem dX2_between_69 : decode cX2_between 69 = .ok (.iload_n 2, 1) := by decide +kernel
theorem dX2_between_70 : decode cX2_between 70 = .ok (.ireturn, 1) := by decide +kernel
theorem dX2_straight_0 : decode cX2_straight 0 = .ok (.iload_n 0, 1) := by decide +kernel
theorem dX2_straight_1 : decode cX2_straight 1 = .ok (.invokestatic 53, 3) := by decide +kernel
theorem dX2_straight_4 : decode cX2_straight 4 = .ok (.istore_n 1, 1) := by decide +kernel
theorem dX2_straight_5 : decode cX2_straight 5 = .ok (.iload_n 1, 1) := by decide +kernel
theorem dX2_straight_6 : decode cX2_straight 6 = .ok (.sipush 11059, 3) := by decide +kernel
theorem dX2_straight_9 : decode cX2_straight 9 = .ok (.if_icmp .ge 9, 3) := by decide +kernel
theorem dX2_straight_12 : decode cX2_straight 12 = .ok (.iconst 2, 1) := by decide +kernel
theorem dX2_straight_13 : decode cX2_straight 13 = .ok (.iload_n 1, 1) := by decide +kernel
theorem dX2_straight_14 : decode cX2_straight 14 = .ok (.imul, 1) := by decide +kernel
theorem dX2_straight_15 : decode cX2_straight 15 = .ok (.goto 28, 3) := by decide +kernel
theorem dX2_straight_18 : decode cX2_straight 18 = .ok (.iload_n 1, 1) := by decide +kernel
theorem dX2_straight_19 : decode cX2_straight 19 = .ok (.sipush 20070, 3) := by decide +kernel
theorem dX2_straight_22 : decode cX2_straight 22 = .ok (.if_icmp .ge 11, 3) := by decide +kernel
theorem dX2_straight_25 : decode cX2_straight 25 = .ok (.iload_n 1, 1) := by decide +kernel
theorem dX2_straight_26 : decode cX2_straight 26 = .ok (.sipush 11059, 3) := by decide +kernel
theorem dX2_straight_29 : decode cX2_straight 29 = .ok (.iadd, 1) := by decide +kernel
theorem dX2_straight_30 : decode cX2_straight 30 = .ok (.goto 13, 3) := by decide +kernel
theorem dX2_straight_33 : decode cX2_straight 33 = .ok (.iload_n 1, 1) := by decide +kernel
theorem dX2_straight_34 : decode cX2_straight 34 = .ok (.iconst 2, 1) := by decide +kernel
theorem dX2_straight_35 : decode cX2_straight 35 = .ok (.ishr, 1) := by decide +kernel
theorem dX2_straight_36 : decode cX2_straight 36 = .ok (.sipush 26112, 3) := by decide +kernel
theorem dX2_straight_39 : decode cX2_straight 39 = .ok (.iadd, 1) := by decide +kernel
theorem dX2_straight_40 : decode cX2_straight 40 = .ok (.invokestatic 24, 3) := by decide +kernel
theorem dX2_straight_43 : decode cX2_straight 43 = .ok (.istore_n 2, 1) := by decide +kernel
theorem dX2_straight_44 : decode cX2_straight 44 = .ok (.iload_n 0, 1) := by decide +kernel
theorem dX2_straight_45 : decode cX2_straight 45 = .ok (.iload_n 2, 1) := by decide +kernel
theorem dX2_straight_46 : decode cX2_straight 46 = .ok (.invokestatic 56, 3) := by decide +kernel
theorem dX2_straight_49 : decode cX2_straight 49 = .ok (.ireturn, 1) := by decide +kernel
theorem dX3_init_0 : decode cX3_init 0 = .ok (.aload_n 0, 1) := by decide +kernel
theorem dX3_init_1 : decode cX3_init 1 = .ok (.invokespecial 3, 3) := by decide +kernel
theorem dX3_init_4 : decode cX3_init 4 = .ok (.return_, 1) := by decide +kernel
theorem dX3_smooth_0 : decode cX3_smooth 0 = .ok (.iconst 0, 1) := by decide +kernel
theorem dX3_smooth_1 : decode cX3_smooth 1 = .ok (.istore_n 3, 1) := by decide +kernel
theorem dX3_smooth_2 : decode cX3_smooth 2 = .ok (.iload_n 3, 1) := by decide +kernel
theorem dX3_smooth_3 : decode cX3_smooth 3 = .ok (.sipush 160, 3) := by decide +kernel
theorem dX3_smooth_6 : decode cX3_smooth 6 = .ok (.if_icmp .ge 19, 3) := by decide +kernel
theorem dX3_smooth_9 : decode cX3_smooth 9 = .ok (.aload_n 2, 1) := by decide +kernel
theorem dX3_smooth_10 : decode cX3_smooth 10 = .ok (.iload_n 3, 1) := by decide +kernel
theorem dX3_smooth_11 : decode cX3_smooth 11 = .ok (.aload_n 0, 1) := by decide +kernel
theorem dX3_smooth_12 : decode cX3_smooth 12 = .ok (.aload_n 1, 1) := by decide +kernel
theorem dX3_smooth_13 : decode cX3_smooth 13 = .ok (.iload_n 3, 1) := by decide +kernel
theorem dX3_smooth_14 : decode cX3_smooth 14 = .ok (.iaload, 1) := by decide +kernel
theorem dX3_smooth_15 : decode cX3_smooth 15 = .ok (.invokevirtual 9, 3) := by decide +kernel
theorem dX3_smooth_18 : decode cX3_smooth 18 = .ok (.iastore, 1) := by decide +kernel
theorem dX3_smooth_19 : decode cX3_smooth 19 = .ok (.iinc 3 1, 3) := by decide +kernel
theorem dX3_smooth_22 : decode cX3_smooth 22 = .ok (.goto (-20), 3) := by decide +kernel
theorem dX3_smooth_25 : decode cX3_smooth 25 = .ok (.return_, 1) := by decide +kernel
theorem dX3_goingOn_0 : decode cX3_goingOn 0 = .ok (.iload_n 1, 1) := by decide +kernel
theorem dX3_goingOn_1 : decode cX3_goingOn 1 = .ok (.ifCond .ne 10, 3) := by decide +kernel
theorem dX3_goingOn_4 : decode cX3_goingOn 4 = .ok (.aload_n 0, 1) := by decide +kernel
theorem dX3_goingOn_5 : decode cX3_goingOn 5 = .ok (.getfield 15, 3) := by decide +kernel
theorem dX3_goingOn_8 : decode cX3_goingOn 8 = .ok (.goto 19, 3) := by decide +kernel
theorem dX3_goingOn_11 : decode cX3_goingOn 11 = .ok (.iload_n 1, 1) := by decide +kernel
theorem dX3_goingOn_12 : decode cX3_goingOn 12 = .ok (.iconst 1, 1) := by decide +kernel
theorem dX3_goingOn_13 : decode cX3_goingOn 13 = .ok (.if_icmp .ne 10, 3) := by decide +kernel
theorem dX3_goingOn_16 : decode cX3_goingOn 16 = .ok (.aload_n 0, 1) := by decide +kernel
theorem dX3_goingOn_17 : decode cX3_goingOn 17 = .ok (.getfield 19, 3) := by decide +kernel
theorem dX3_goingOn_20 : decode cX3_goingOn 20 = .ok (.goto 7, 3) := by decide +kernel
theorem dX3_goingOn_23 : decode cX3_goingOn 23 = .ok (.aload_n 0, 1) := by decide +kernel
theorem dX3_goingOn_24 : decode cX3_goingOn 24 = .ok (.getfield 22, 3) := by decide +kernel
theorem dX3_goingOn_27 : decode cX3_goingOn 27 = .ok (.ireturn, 1) := by decide +kernel
theorem dX3_forget_0 : decode cX3_forget 0 = .ok (.aload_n 0, 1) := by decide +kernel
theorem dX3_forget_1 : decode cX3_forget 1 = .ok (.iconst 0, 1) := by decide +kernel
theorem dX3_forget_2 : decode cX3_forget 2 = .ok (.putfield 15, 3) := by decide +kernel
theorem dX3_forget_5 : decode cX3_forget 5 = .ok (.aload_n 0, 1) := by decide +kernel
theorem dX3_forget_6 : decode cX3_forget 6 = .ok (.iconst 0, 1) := by decide +kernel
theorem dX3_forget_7 : decode cX3_forget 7 = .ok (.putfield 19, 3) := by decide +kernel
theorem dX3_forget_10 : decode cX3_forget 10 = .ok (.aload_n 0, 1) := by decide +kernel
theorem dX3_forget_11 : decode cX3_forget 11 = .ok (.iconst 0, 1) := by decide +kernel
theorem dX3_forget_12 : decode cX3_forget 12 = .ok (.putfield 22, 3) := by decide +kernel
theorem dX3_forget_15 : decode cX3_forget 15 = .ok (.return_, 1) := by decide +kernel
theorem dX3_next_0 : decode cX3_next 0 = .ok (.iload_n 1, 1) := by decide +kernel
theorem dX3_next_1 : decode cX3_next 1 = .ok (.iconst 3, 1) := by decide +kernel
theorem dX3_next_2 : decode cX3_next 2 = .ok (.ishr, 1) := by decide +kernel
theorem dX3_next_3 : decode cX3_next 3 = .ok (.iconst 2, 1) := by decide +kernel
theorem dX3_next_4 : decode cX3_next 4 = .ok (.ishl, 1) := by decide +kernel
theorem dX3_next_5 : decode cX3_next 5 = .ok (.istore_n 2, 1) := by decide +kernel
theorem dX3_next_6 : decode cX3_next 6 = .ok (.iload_n 2, 1) := by decide +kernel
theorem dX3_next_7 : decode cX3_next 7 = .ok (.aload_n 0, 1) := by decide +kernel
theorem dX3_next_8 : decode cX3_next 8 = .ok (.getfield 15, 3) := by decide +kernel
theorem dX3_next_11 : decode cX3_next 11 = .ok (.isub, 1) := by decide +kernel
theorem dX3_next_12 : decode cX3_next 12 = .ok (.i2l, 1) := by decide +kernel
theorem dX3_next_13 : decode cX3_next 13 = .ok (.ldc2_w 25, 3) := by decide +kernel
theorem dX3_next_16 : decode cX3_next 16 = .ok (.lmul, 1) := by decide +kernel
theorem dX3_next_17 : decode cX3_next 17 = .ok (.lstore_n 3, 1) := by decide +kernel
theorem dX3_next_18 : decode cX3_next 18 = .ok (.aload_n 0, 1) := by decide +kernel
theorem dX3_next_19 : decode cX3_next 19 = .ok (.iload_n 2, 1) := by decide +kernel
theorem dX3_next_20 : decode cX3_next 20 = .ok (.putfield 15, 3) := by decide +kernel
theorem dX3_next_23 : decode cX3_next 23 = .ok (.aload_n 0, 1) := by decide +kernel
theorem dX3_next_24 : decode cX3_next 24 = .ok (.getfield 19, 3) := by decide +kernel
theorem dX3_next_27 : decode cX3_next 27 = .ok (.bipush 15, 2) := by decide +kernel
theorem dX3_next_29 : decode cX3_next 29 = .ok (.ishr, 1) := by decide +kernel
theorem dX3_next_30 : decode cX3_next 30 = .ok (.istore 5, 2) := by decide +kernel
theorem dX3_next_32 : decode cX3_next 32 = .ok (.aload_n 0, 1) := by decide +kernel
theorem dX3_next_33 : decode cX3_next 33 = .ok (.getfield 19, 3) := by decide +kernel
theorem dX3_next_36 : decode cX3_next 36 = .ok (.iload 5, 2) := by decide +kernel
theorem dX3_next_38 : decode cX3_next 38 = .ok (.ldc 27, 2) := by decide +kernel
theorem dX3_next_40 : decode cX3_next 40 = .ok (.imul, 1) := by decide +kernel
theorem dX3_next_41 : decode cX3_next 41 = .ok (.isub, 1) := by decide +kernel
theorem dX3_next_42 : decode cX3_next 42 = .ok (.istore 6, 2) := by decide +kernel
theorem dX3_next_44 : decode cX3_next 44 = .ok (.aload_n 0, 1) := by decide +kernel
theorem dX3_next_45 : decode cX3_next 45 = .ok (.iload 5, 2) := by decide +kernel
theorem dX3_next_47 : decode cX3_next 47 = .ok (.i2l, 1) := by decide +kernel
theorem dX3_next_48 : decode cX3_next 48 = .ok (.ldc2_w 28, 3) := by decide +kernel
theorem dX3_next_51 : decode cX3_next 51 = .ok (.lmul, 1) := by decide +kernel
theorem dX3_next_52 : decode cX3_next 52 = .ok (.lload_n 3, 1) := by decide +kernel
theorem dX3_next_53 : decode cX3_next 53 = .ok (.ladd, 1) := by decide +kernel
theorem dX3_next_54 : decode cX3_next 54 = .ok (.iload 6, 2) := by decide +kernel
theorem dX3_next_56 : decode cX3_next 56 = .ok (.sipush 32735, 3) := by decide +kernel
theorem dX3_next_59 : decode cX3_next 59 = .ok (.invokestatic 30, 3) := by decide +kernel
theorem dX3_next_62 : decode cX3_next 62 = .ok (.i2l, 1) := by decide +kernel
theorem dX3_next_63 : decode cX3_next 63 = .ok (.ladd, 1) := by decide +kernel
theorem dX3_next_64 : decode cX3_next 64 = .ok (.invokestatic 36, 3) := by decide +kernel
theorem dX3_next_67 : decode cX3_next 67 = .ok (.putfield 19, 3) := by decide +kernel
theorem dX3_next_70 : decode cX3_next 70 = .ok (.aload_n 0, 1) := by decide +kernel
theorem dX3_next_71 : decode cX3_next 71 = .ok (.getfield 19, 3) := by decide +kernel
theorem dX3_next_74 : decode cX3_next 74 = .ok (.i2l, 1) := by decide +kernel
theorem dX3_next_75 : decode cX3_next 75 = .ok (.ldc2_w 40, 3) := by decide +kernel
theorem dX3_next_78 : decode cX3_next 78 = .ok (.ladd, 1) := by decide +kernel
theorem dX3_next_79 : decode cX3_next 79 = .ok (.invokestatic 36, 3) := by decide +kernel
theorem dX3_next_82 : decode cX3_next 82 = .ok (.bipush 15, 2) := by decide +kernel
theorem dX3_next_84 : decode cX3_next 84 = .ok (.ishr, 1) := by decide +kernel
theorem dX3_next_85 : decode cX3_next 85 = .ok (.invokestatic 42, 3) := by decide +kernel
theorem dX3_next_88 : decode cX3_next 88 = .ok (.istore 7, 2) := by decide +kernel
theorem dX3_next_90 : decode cX3_next 90 = .ok (.iload 7, 2) := by decide +kernel
theorem dX3_next_92 : decode cX3_next 92 = .ok (.aload_n 0, 1) := by decide +kernel
theorem dX3_next_93 : decode cX3_next 93 = .ok (.getfield 22, 3) := by decide +kernel
theorem dX3_next_96 : decode cX3_next 96 = .ok (.sipush (-28180), 3) := by decide +kernel
theorem dX3_next_99 : decode cX3_next 99 = .ok (.invokestatic 30, 3) := by decide +kernel
theorem dX3_next_102 : decode cX3_next 102 = .ok (.iadd, 1) := by decide +kernel
theorem dX3_next_103 : decode cX3_next 103 = .ok (.invokestatic 42, 3) := by decide +kernel
theorem dX3_next_106 : decode cX3_next 106 = .ok (.istore 8, 2) := by decide +kernel
theorem dX3_next_108 : decode cX3_next 108 = .ok (.aload_n 0, 1) := by decide +kernel
theorem dX3_next_109 : decode cX3_next 109 = .ok (.iload 7, 2) := by decide +kernel
theorem dX3_next_111 : decode cX3_next 111 = .ok (.putfield 22, 3) := by decide +kernel
theorem dX3_next_114 : decode cX3_next 114 = .ok (.iload 8, 2) := by decide +kernel
theorem dX3_next_116 : decode cX3_next 116 = .ok (.ireturn, 1) := by decide +kernel
theorem dX3_nearestInt_0 : decode cX3_nearestInt 0 = .ok (.lload_n 0, 1) := by decide +kernel
theorem dX3_nearestInt_1 : decode cX3_nearestInt 1 = .ok (.ldc2_w 45, 3) := by decide +kernel
theorem dX3_nearestInt_4 : decode cX3_nearestInt 4 = .ok (.lcmp, 1) := by decide +kernel
theorem dX3_nearestInt_5 : decode cX3_nearestInt 5 = .ok (.ifCond .ge 9, 3) := by decide +kernel
theorem dX3_nearestInt_8 : decode cX3_nearestInt 8 = .ok (.ldc2_w 45, 3) := by decide +kernel
theorem dX3_nearestInt_11 : decode cX3_nearestInt 11 = .ok (.goto 4, 3) := by decide +kernel
theorem dX3_nearestInt_14 : decode cX3_nearestInt 14 = .ok (.lload_n 0, 1) := by decide +kernel
theorem dX3_nearestInt_15 : decode cX3_nearestInt 15 = .ok (.lstore_n 2, 1) := by decide +kernel
theorem dX3_nearestInt_16 : decode cX3_nearestInt 16 = .ok (.lload_n 2, 1) := by decide +kernel
theorem dX3_nearestInt_17 : decode cX3_nearestInt 17 = .ok (.ldc2_w 47, 3) := by decide +kernel
theorem dX3_nearestInt_20 : decode cX3_nearestInt 20 = .ok (.lcmp, 1) := by decide +kernel
theorem dX3_nearestInt_21 : decode cX3_nearestInt 21 = .ok (.ifCond .le 9, 3) := by decide +kernel
theorem dX3_nearestInt_24 : decode cX3_nearestInt 24 = .ok (.ldc2_w 47, 3) := by decide +kernel
theorem dX3_nearestInt_27 : decode cX3_nearestInt 27 = .ok (.goto 4, 3) := by decide +kernel
theorem dX3_nearestInt_30 : decode cX3_nearestInt 30 = .ok (.lload_n 2, 1) := by decide +kernel
theorem dX3_nearestInt_31 : decode cX3_nearestInt 31 = .ok (.l2i, 1) := by decide +kernel
theorem dX3_nearestInt_32 : decode cX3_nearestInt 32 = .ok (.ireturn, 1) := by decide +kernel
theorem dX4_cut_0 : decode cX4_cut 0 = .ok (.iload_n 0, 1) := by decide +kernel
theorem dX4_cut_1 : decode cX4_cut 1 = .ok (.sipush (-32768), 3) := by decide +kernel
theorem dX4_cut_4 : decode cX4_cut 4 = .ok (.if_icmp .ge 9, 3) := by decide +kernel
theorem dX4_cut_7 : decode cX4_cut 7 = .ok (.sipush (-32768), 3) := by decide +kernel
theorem dX4_cut_10 : decode cX4_cut 10 = .ok (.goto 17, 3) := by decide +kernel
theorem dX4_cut_13 : decode cX4_cut 13 = .ok (.iload_n 0, 1) := by decide +kernel
theorem dX4_cut_14 : decode cX4_cut 14 = .ok (.sipush 32767, 3) := by decide +kernel
theorem dX4_cut_17 : decode cX4_cut 17 = .ok (.if_icmp .le 9, 3) := by decide +kernel
theorem dX4_cut_20 : decode cX4_cut 20 = .ok (.sipush 32767, 3) := by decide +kernel
theorem dX4_cut_23 : decode cX4_cut 23 = .ok (.goto 4, 3) := by decide +kernel
theorem dX4_cut_26 : decode cX4_cut 26 = .ok (.iload_n 0, 1) := by decide +kernel
theorem dX4_cut_27 : decode cX4_cut 27 = .ok (.ireturn, 1) := by decide +kernel
theorem dX4_rounded_0 : decode cX4_rounded 0 = .ok (.iload_n 0, 1) := by decide +kernel
theorem dX4_rounded_1 : decode cX4_rounded 1 = .ok (.iload_n 1, 1) := by decide +kernel
theorem dX4_rounded_2 : decode cX4_rounded 2 = .ok (.imul, 1) := by decide +kernel
theorem dX4_rounded_3 : decode cX4_rounded 3 = .ok (.sipush 16384, 3) := by decide +kernel
theorem dX4_rounded_6 : decode cX4_rounded 6 = .ok (.iadd, 1) := by decide +kernel
theorem dX4_rounded_7 : decode cX4_rounded 7 = .ok (.bipush 15, 2) := by decide +kernel
theorem dX4_rounded_9 : decode cX4_rounded 9 = .ok (.ishr, 1) := by decide +kernel
theorem dX4_rounded_10 : decode cX4_rounded 10 = .ok (.invokestatic 9, 3) := by decide +kernel
theorem dX4_rounded_13 : decode cX4_rounded 13 = .ok (.ireturn, 1) := by decide +kernel
theorem dX4_floored_0 : decode cX4_floored 0 = .ok (.iload_n 0, 1) := by decide +kernel
theorem dX4_floored_1 : decode cX4_floored 1 = .ok (.iload_n 1, 1) := by decide +kernel
theorem dX4_floored_2 : decode cX4_floored 2 = .ok (.imul, 1) := by decide +kernel
theorem dX4_floored_3 : decode cX4_floored 3 = .ok (.bipush 15, 2) := by decide +kernel
theorem dX4_floored_5 : decode cX4_floored 5 = .ok (.ishr, 1) := by decide +kernel
theorem dX4_floored_6 : decode cX4_floored 6 = .ok (.invokestatic 9, 3) := by decide +kernel
theorem dX4_floored_9 : decode cX4_floored 9 = .ok (.ireturn, 1) := by decide +kernel
theorem dX4_size_0 : decode cX4_size 0 = .ok (.iload_n 0, 1) := by decide +kernel
theorem dX4_size_1 : decode cX4_size 1 = .ok (.ifCond .ge 8, 3) := by decide +kernel
theorem dX4_size_4 : decode cX4_size 4 = .ok (.iload_n 0, 1) := by decide +kernel
theorem dX4_size_5 : decode cX4_size 5 = .ok (.ineg, 1) := by decide +kernel
theorem dX4_size_6 : decode cX4_size 6 = .ok (.goto 4, 3) := by decide +kernel
theorem dX4_size_9 : decode cX4_size 9 = .ok (.iload_n 0, 1) := by decide +kernel
theorem dX4_size_10 : decode cX4_size 10 = .ok (.invokestatic 9, 3) := by decide +kernel
theorem dX4_size_13 : decode cX4_size 13 = .ok (.ireturn, 1) := by decide +kernel
theorem dX4_withSignOf_0 : decode cX4_withSignOf 0 = .ok (.iload_n 0, 1) := by decide +kernel
theorem dX4_withSignOf_1 : decode cX4_withSignOf 1 = .ok (.ifCond .ge 8, 3) := by decide +kernel
theorem dX4_withSignOf_4 : decode cX4_withSignOf 4 = .ok (.iload_n 1, 1) := by decide +kernel
theorem dX4_withSignOf_5 : decode cX4_withSignOf 5 = .ok (.ineg, 1) := by decide +kernel
theorem dX4_withSignOf_6 : decode cX4_withSignOf 6 = .ok (.goto 4, 3) := by decide +kernel
theorem dX4_withSignOf_9 : decode cX4_withSignOf 9 = .ok (.iload_n 1, 1) := by decide +kernel
theorem dX4_withSignOf_10 : decode cX4_withSignOf 10 = .ok (.ireturn, 1) := by decide +kernel
theorem dX4_norm_0 : decode cX4_norm 0 = .ok (.iconst 0, 1) := by decide +kernel
theorem dX4_norm_1 : decode cX4_norm 1 = .ok (.istore_n 1, 1) := by decide +kernel
theorem dX4_norm_2 : decode cX4_norm 2 = .ok (.iload_n 0, 1) := by decide +kernel
theorem dX4_norm_3 : decode cX4_norm 3 = .ok (.istore_n 2, 1) := by decide +kernel
theorem dX4_norm_4 : decode cX4_norm 4 = .ok (.iload_n 1, 1) := by decide +kernel
theorem dX4_norm_5 : decode cX4_norm 5 = .ok (.bipush 30, 2) := by decide +kernel
theorem dX4_norm_7 : decode cX4_norm 7 = .ok (.if_icmp .ge 19, 3) := by decide +kernel
theorem dX4_norm_10 : decode cX4_norm 10 = .ok (.iload_n 2, 1) := by decide +kernel
theorem dX4_norm_11 : decode cX4_norm 11 = .ok (.ldc 15, 2) := by decide +kernel
theorem dX4_norm_13 : decode cX4_norm 13 = .ok (.if_icmp .ge 13, 3) := by decide +kernel
theorem dX4_norm_16 : decode cX4_norm 16 = .ok (.iinc 1 1, 3) := by decide +kernel
theorem dX4_norm_19 : decode cX4_norm 19 = .ok (.iload_n 2, 1) := by decide +kernel
theorem dX4_norm_20 : decode cX4_norm 20 = .ok (.iconst 1, 1) := by decide +kernel
theorem dX4_norm_21 : decode cX4_norm 21 = .ok (.ishl, 1) := by decide +kernel
theorem dX4_norm_22 : decode cX4_norm 22 = .ok (.istore_n 2, 1) := by decide +kernel
theorem dX4_norm_23 : decode cX4_norm 23 = .ok (.goto (-19), 3) := by decide +kernel
theorem dX4_norm_26 : decode cX4_norm 26 = .ok (.iload_n 1, 1) := by decide +kernel
theorem dX4_norm_27 : decode cX4_norm 27 = .ok (.ireturn, 1) := by decide +kernel
theorem dX4_greatestSize_0 : decode cX4_greatestSize 0 = .ok (.iconst 0, 1) := by decide +kernel
theorem dX4_greatestSize_1 : decode cX4_greatestSize 1 = .ok (.istore 4, 2) := by decide +kernel
theorem dX4_greatestSize_3 : decode cX4_greatestSize 3 = .ok (.iconst 0, 1) := by decide +kernel
theorem dX4_greatestSize_4 : decode cX4_greatestSize 4 = .ok (.istore 5, 2) := by decide +kernel
theorem dX4_greatestSize_6 : decode cX4_greatestSize 6 = .ok (.iload 5, 2) := by decide +kernel
theorem dX4_greatestSize_8 : decode cX4_greatestSize 8 = .ok (.iload_n 3, 1) := by decide +kernel
theorem dX4_greatestSize_9 : decode cX4_greatestSize 9 = .ok (.if_icmp .ge 38, 3) := by decide +kernel
theorem dX4_greatestSize_12 : decode cX4_greatestSize 12 = .ok (.aload_n 0, 1) := by decide +kernel
theorem dX4_greatestSize_13 : decode cX4_greatestSize 13 = .ok (.iload_n 1, 1) := by decide +kernel
theorem dX4_greatestSize_14 : decode cX4_greatestSize 14 = .ok (.iload_n 2, 1) := by decide +kernel
theorem dX4_greatestSize_15 : decode cX4_greatestSize 15 = .ok (.iload 5, 2) := by decide +kernel
theorem dX4_greatestSize_17 : decode cX4_greatestSize 17 = .ok (.imul, 1) := by decide +kernel
theorem dX4_greatestSize_18 : decode cX4_greatestSize 18 = .ok (.iadd, 1) := by decide +kernel
theorem dX4_greatestSize_19 : decode cX4_greatestSize 19 = .ok (.iaload, 1) := by decide +kernel
theorem dX4_greatestSize_20 : decode cX4_greatestSize 20 = .ok (.invokestatic 16, 3) := by decide +kernel
theorem dX4_greatestSize_23 : decode cX4_greatestSize 23 = .ok (.istore 6, 2) := by decide +kernel
theorem dX4_greatestSize_25 : decode cX4_greatestSize 25 = .ok (.iload 6, 2) := by decide +kernel
theorem dX4_greatestSize_27 : decode cX4_greatestSize 27 = .ok (.iload 4, 2) := by decide +kernel
theorem dX4_greatestSize_29 : decode cX4_greatestSize 29 = .ok (.if_icmp .le 8, 3) := by decide +kernel
theorem dX4_greatestSize_32 : decode cX4_greatestSize 32 = .ok (.iload 6, 2) := by decide +kernel
theorem dX4_greatestSize_34 : decode cX4_greatestSize 34 = .ok (.goto 5, 3) := by decide +kernel
theorem dX4_greatestSize_37 : decode cX4_greatestSize 37 = .ok (.iload 4, 2) := by decide +kernel
theorem dX4_greatestSize_39 : decode cX4_greatestSize 39 = .ok (.istore 4, 2) := by decide +kernel
theorem dX4_greatestSize_41 : decode cX4_greatestSize 41 = .ok (.iinc 5 1, 3) := by decide +kernel
theorem dX4_greatestSize_44 : decode cX4_greatestSize 44 = .ok (.goto (-38), 3) := by decide +kernel
theorem dX4_greatestSize_47 : decode cX4_greatestSize 47 = .ok (.iload 4, 2) := by decide +kernel
theorem dX4_greatestSize_49 : decode cX4_greatestSize 49 = .ok (.ireturn, 1) := by decide +kernel
theorem dX5_init_0 : decode cX5_init 0 = .ok (.aload_n 0, 1) := by decide +kernel
theorem dX5_init_1 : decode cX5_init 1 = .ok (.invokespecial 3, 3) := by decide +kernel
theorem dX5_init_4 : decode cX5_init 4 = .ok (.aload_n 0, 1) := by decide +kernel
theorem dX5_init_5 : decode cX5_init 5 = .ok (.sipush 280, 3) := by decide +kernel
theorem dX5_init_8 : decode cX5_init 8 = .ok (.newarray .int, 2) := by decide +kernel
theorem dX5_init_10 : decode cX5_init 10 = .ok (.putfield 9, 3) := by decide +kernel
theorem dX5_init_13 : decode cX5_init 13 = .ok (.aload_n 0, 1) := by decide +kernel
theorem dX5_init_14 : decode cX5_init 14 = .ok (.bipush 40, 2) := by decide +kernel
theorem dX5_init_16 : decode cX5_init 16 = .ok (.newarray .int, 2) := by decide +kernel
theorem dX5_init_18 : decode cX5_init 18 = .ok (.putfield 15, 3) := by decide +kernel
theorem dX5_init_21 : decode cX5_init 21 = .ok (.return_, 1) := by decide +kernel
theorem dX5_from_0 : decode cX5_from 0 = .ok (.bipush 120, 2) := by decide +kernel
theorem dX5_from_2 : decode cX5_from 2 = .ok (.bipush 40, 2) := by decide +kernel
theorem dX5_from_4 : decode cX5_from 4 = .ok (.iload_n 0, 1) := by decide +kernel
theorem dX5_from_5 : decode cX5_from 5 = .ok (.imul, 1) := by decide +kernel
theorem dX5_from_6 : decode cX5_from 6 = .ok (.iadd, 1) := by decide +kernel
theorem dX5_from_7 : decode cX5_from 7 = .ok (.ireturn, 1) := by decide +kernel
theorem dX5_look_0 : decode cX5_look 0 = .ok (.iconst 0, 1) := by decide +kernel
theorem dX5_look_1 : decode cX5_look 1 = .ok (.istore 4, 2) := by decide +kernel
theorem dX5_look_3 : decode cX5_look 3 = .ok (.iload 4, 2) := by decide +kernel
theorem dX5_look_5 : decode cX5_look 5 = .ok (.bipush 40, 2) := by decide +kernel
theorem dX5_look_7 : decode cX5_look 7 = .ok (.if_icmp .ge 38, 3) := by decide +kernel
theorem dX5_look_10 : decode cX5_look 10 = .ok (.aload_n 0, 1) := by decide +kernel
theorem dX5_look_11 : decode cX5_look 11 = .ok (.getfield 15, 3) := by decide +kernel
theorem dX5_look_14 : decode cX5_look 14 = .ok (.iload 4, 2) := by decide +kernel
theorem dX5_look_16 : decode cX5_look 16 = .ok (.getstatic 18, 3) := by decide +kernel
theorem dX5_look_19 : decode cX5_look 19 = .ok (.iload_n 3, 1) := by decide +kernel
theorem dX5_look_20 : decode cX5_look 20 = .ok (.iaload, 1) := by decide +kernel
theorem dX5_look_21 : decode cX5_look 21 = .ok (.aload_n 0, 1) := by decide +kernel
theorem dX5_look_22 : decode cX5_look 22 = .ok (.getfield 9, 3) := by decide +kernel
theorem dX5_look_25 : decode cX5_look 25 = .ok (.iload_n 1, 1) := by decide +kernel
theorem dX5_look_26 : decode cX5_look 26 = .ok (.invokestatic 21, 3) := by decide +kernel
theorem dX5_look_29 : decode cX5_look 29 = .ok (.iload 4, 2) := by decide +kernel
theorem dX5_look_31 : decode cX5_look 31 = .ok (.iadd, 1) := by decide +kernel
theorem dX5_look_32 : decode cX5_look 32 = .ok (.iload_n 2, 1) := by decide +kernel
theorem dX5_look_33 : decode cX5_look 33 = .ok (.isub, 1) := by decide +kernel
theorem dX5_look_34 : decode cX5_look 34 = .ok (.iaload, 1) := by decide +kernel
theorem dX5_look_35 : decode cX5_look 35 = .ok (.invokestatic 25, 3) := by decide +kernel
theorem dX5_look_38 : decode cX5_look 38 = .ok (.iastore, 1) := by decide +kernel
theorem dX5_look_39 : decode cX5_look 39 = .ok (.iinc 4 1, 3) := by decide +kernel
theorem dX5_look_42 : decode cX5_look 42 = .ok (.goto (-39), 3) := by decide +kernel
theorem dX5_look_45 : decode cX5_look 45 = .ok (.return_, 1) := by decide +kernel
theorem dX5_add_0 : decode cX5_add 0 = .ok (.iconst 0, 1) := by decide +kernel
theorem dX5_add_1 : decode cX5_add 1 = .ok (.istore_n 3, 1) := by decide +kernel
theorem dX5_add_2 : decode cX5_add 2 = .ok (.iload_n 3, 1) := by decide +kernel
theorem dX5_add_3 : decode cX5_add 3 = .ok (.bipush 40, 2) := by decide +kernel
theorem dX5_add_5 : decode cX5_add 5 = .ok (.if_icmp .ge 33, 3) := by decide +kernel
theorem dX5_add_8 : decode cX5_add 8 = .ok (.aload_n 0, 1) := by decide +kernel
theorem dX5_add_9 : decode cX5_add 9 = .ok (.getfield 9, 3) := by decide +kernel
theorem dX5_add_12 : decode cX5_add 12 = .ok (.iload_n 1, 1) := by decide +kernel
theorem dX5_add_13 : decode cX5_add 13 = .ok (.invokestatic 21, 3) := by decide +kernel
theorem dX5_add_16 : decode cX5_add 16 = .ok (.iload_n 3, 1) := by decide +kernel
theorem dX5_add_17 : decode cX5_add 17 = .ok (.iadd, 1) := by decide +kernel
theorem dX5_add_18 : decode cX5_add 18 = .ok (.aload_n 2, 1) := by decide +kernel
theorem dX5_add_19 : decode cX5_add 19 = .ok (.iload_n 3, 1) := by decide +kernel
theorem dX5_add_20 : decode cX5_add 20 = .ok (.iaload, 1) := by decide +kernel
theorem dX5_add_21 : decode cX5_add 21 = .ok (.aload_n 0, 1) := by decide +kernel
theorem dX5_add_22 : decode cX5_add 22 = .ok (.getfield 15, 3) := by decide +kernel
theorem dX5_add_25 : decode cX5_add 25 = .ok (.iload_n 3, 1) := by decide +kernel
theorem dX5_add_26 : decode cX5_add 26 = .ok (.iaload, 1) := by decide +kernel
theorem dX5_add_27 : decode cX5_add 27 = .ok (.iadd, 1) := by decide +kernel
theorem dX5_add_28 : decode cX5_add 28 = .ok (.invokestatic 31, 3) := by decide +kernel
theorem dX5_add_31 : decode cX5_add 31 = .ok (.iastore, 1) := by decide +kernel
theorem dX5_add_32 : decode cX5_add 32 = .ok (.iinc 3 1, 3) := by decide +kernel
theorem dX5_add_35 : decode cX5_add 35 = .ok (.goto (-33), 3) := by decide +kernel
theorem dX5_add_38 : decode cX5_add 38 = .ok (.return_, 1) := by decide +kernel
theorem dX5_endFrame_0 : decode cX5_endFrame 0 = .ok (.aload_n 0, 1) := by decide +kernel
theorem dX5_endFrame_1 : decode cX5_endFrame 1 = .ok (.getfield 9, 3) := by decide +kernel
theorem dX5_endFrame_4 : decode cX5_endFrame 4 = .ok (.sipush 160, 3) := by decide +kernel
theorem dX5_endFrame_7 : decode cX5_endFrame 7 = .ok (.aload_n 0, 1) := by decide +kernel
theorem dX5_endFrame_8 : decode cX5_endFrame 8 = .ok (.getfield 9, 3) := by decide +kernel
theorem dX5_endFrame_11 : decode cX5_endFrame 11 = .ok (.iconst 0, 1) := by decide +kernel
theorem dX5_endFrame_12 : decode cX5_endFrame 12 = .ok (.bipush 120, 2) := by decide +kernel
theorem dX5_endFrame_14 : decode cX5_endFrame 14 = .ok (.invokestatic 34, 3) := by decide +kernel
theorem dX5_endFrame_17 : decode cX5_endFrame 17 = .ok (.return_, 1) := by decide +kernel
theorem dX5_forget_0 : decode cX5_forget 0 = .ok (.aload_n 0, 1) := by decide +kernel
theorem dX5_forget_1 : decode cX5_forget 1 = .ok (.getfield 9, 3) := by decide +kernel
theorem dX5_forget_4 : decode cX5_forget 4 = .ok (.iconst 0, 1) := by decide +kernel
theorem dX5_forget_5 : decode cX5_forget 5 = .ok (.invokestatic 40, 3) := by decide +kernel
theorem dX5_forget_8 : decode cX5_forget 8 = .ok (.return_, 1) := by decide +kernel
theorem dX6_init_0 : decode cX6_init 0 = .ok (.aload_n 0, 1) := by decide +kernel
theorem dX6_init_1 : decode cX6_init 1 = .ok (.invokespecial 3, 3) := by decide +kernel
theorem dX6_init_4 : decode cX6_init 4 = .ok (.aload_n 0, 1) := by decide +kernel
theorem dX6_init_5 : decode cX6_init 5 = .ok (.sipush 160, 3) := by decide +kernel
theorem dX6_init_8 : decode cX6_init 8 = .ok (.newarray .int, 2) := by decide +kernel
theorem dX6_init_10 : decode cX6_init 10 = .ok (.putfield 9, 3) := by decide +kernel
theorem dX6_init_13 : decode cX6_init 13 = .ok (.aload_n 0, 1) := by decide +kernel
theorem dX6_init_14 : decode cX6_init 14 = .ok (.bipush 9, 2) := by decide +kernel
theorem dX6_init_16 : decode cX6_init 16 = .ok (.newarray .int, 2) := by decide +kernel
theorem dX6_init_18 : decode cX6_init 18 = .ok (.putfield 15, 3) := by decide +kernel
theorem dX6_init_21 : decode cX6_init 21 = .ok (.aload_n 0, 1) := by decide +kernel
theorem dX6_init_22 : decode cX6_init 22 = .ok (.bipush 9, 2) := by decide +kernel
theorem dX6_init_24 : decode cX6_init 24 = .ok (.newarray .int, 2) := by decide +kernel
theorem dX6_init_26 : decode cX6_init 26 = .ok (.putfield 18, 3) := by decide +kernel
theorem dX6_init_29 : decode cX6_init 29 = .ok (.aload_n 0, 1) := by decide +kernel
theorem dX6_init_30 : decode cX6_init 30 = .ok (.bipush 9, 2) := by decide +kernel
theorem dX6_init_32 : decode cX6_init 32 = .ok (.newarray .int, 2) := by decide +kernel
theorem dX6_init_34 : decode cX6_init 34 = .ok (.putfield 21, 3) := by decide +kernel
theorem dX6_init_37 : decode cX6_init 37 = .ok (.aload_n 0, 1) := by decide +kernel
theorem dX6_init_38 : decode cX6_init 38 = .ok (.bipush 8, 2) := by decide +kernel
theorem dX6_init_40 : decode cX6_init 40 = .ok (.newarray .int, 2) := by decide +kernel
theorem dX6_init_42 : decode cX6_init 42 = .ok (.putfield 24, 3) := by decide +kernel
theorem dX6_init_45 : decode cX6_init 45 = .ok (.return_, 1) := by decide +kernel
theorem dX6_predict_0 : decode cX6_predict 0 = .ok (.aload_n 0, 1) := by decide +kernel
theorem dX6_predict_1 : decode cX6_predict 1 = .ok (.aload_n 1, 1) := by decide +kernel
theorem dX6_predict_2 : decode cX6_predict 2 = .ok (.invokevirtual 27, 3) := by decide +kernel
theorem dX6_predict_5 : decode cX6_predict 5 = .ok (.aload_n 0, 1) := by decide +kernel
theorem dX6_predict_6 : decode cX6_predict 6 = .ok (.invokevirtual 31, 3) := by decide +kernel
theorem dX6_predict_9 : decode cX6_predict 9 = .ok (.aload_n 0, 1) := by decide +kernel
theorem dX6_predict_10 : decode cX6_predict 10 = .ok (.invokevirtual 34, 3) := by decide +kernel
theorem dX6_predict_13 : decode cX6_predict 13 = .ok (.iconst 0, 1) := by decide +kernel
theorem dX6_predict_14 : decode cX6_predict 14 = .ok (.istore_n 3, 1) := by decide +kernel
theorem dX6_predict_15 : decode cX6_predict 15 = .ok (.iload_n 3, 1) := by decide +kernel
theorem dX6_predict_16 : decode cX6_predict 16 = .ok (.bipush 8, 2) := by decide +kernel
theorem dX6_predict_18 : decode cX6_predict 18 = .ok (.if_icmp .ge 25, 3) := by decide +kernel
theorem dX6_predict_21 : decode cX6_predict 21 = .ok (.aload_n 2, 1) := by decide +kernel
theorem dX6_predict_22 : decode cX6_predict 22 = .ok (.iload_n 3, 1) := by decide +kernel
theorem dX6_predict_23 : decode cX6_predict 23 = .ok (.iload_n 3, 1) := by decide +kernel
theorem dX6_predict_24 : decode cX6_predict 24 = .ok (.aload_n 0, 1) := by decide +kernel
theorem dX6_predict_25 : decode cX6_predict 25 = .ok (.getfield 24, 3) := by decide +kernel
theorem dX6_predict_28 : decode cX6_predict 28 = .ok (.iload_n 3, 1) := by decide +kernel
theorem dX6_predict_29 : decode cX6_predict 29 = .ok (.iaload, 1) := by decide +kernel
theorem dX6_predict_30 : decode cX6_predict 30 = .ok (.invokestatic 37, 3) := by decide +kernel
theorem dX6_predict_33 : decode cX6_predict 33 = .ok (.invokestatic 41, 3) := by decide +kernel
theorem dX6_predict_36 : decode cX6_predict 36 = .ok (.iastore, 1) := by decide +kernel
theorem dX6_predict_37 : decode cX6_predict 37 = .ok (.iinc 3 1, 3) := by decide +kernel
theorem dX6_predict_40 : decode cX6_predict 40 = .ok (.goto (-25), 3) := by decide +kernel
theorem dX6_predict_43 : decode cX6_predict 43 = .ok (.return_, 1) := by decide +kernel
theorem dX6_lower_0 : decode cX6_lower 0 = .ok (.aload_n 1, 1) := by decide +kernel
theorem dX6_lower_1 : decode cX6_lower 1 = .ok (.iconst 0, 1) := by decide +kernel
theorem dX6_lower_2 : decode cX6_lower 2 = .ok (.iconst 1, 1) := by decide +kernel
theorem dX6_lower_3 : decode cX6_lower 3 = .ok (.sipush 160, 3) := by decide +kernel
theorem dX6_lower_6 : decode cX6_lower 6 = .ok (.invokestatic 45, 3) := by decide +kernel
theorem dX6_lower_9 : decode cX6_lower 9 = .ok (.istore_n 2, 1) := by decide +kernel
theorem dX6_lower_10 : decode cX6_lower 10 = .ok (.iload_n 2, 1) := by decide +kernel
theorem dX6_lower_11 : decode cX6_lower 11 = .ok (.ifCond .ne 7, 3) := by decide +kernel
theorem dX6_lower_14 : decode cX6_lower 14 = .ok (.iconst 0, 1) := by decide +kernel
theorem dX6_lower_15 : decode cX6_lower 15 = .ok (.goto 12, 3) := by decide +kernel
theorem dX6_lower_18 : decode cX6_lower 18 = .ok (.iconst 4, 1) := by decide +kernel
theorem dX6_lower_19 : decode cX6_lower 19 = .ok (.iload_n 2, 1) := by decide +kernel
theorem dX6_lower_20 : decode cX6_lower 20 = .ok (.bipush 16, 2) := by decide +kernel
theorem dX6_lower_22 : decode cX6_lower 22 = .ok (.ishl, 1) := by decide +kernel
theorem dX6_lower_23 : decode cX6_lower 23 = .ok (.invokestatic 51, 3) := by decide +kernel
theorem dX6_lower_26 : decode cX6_lower 26 = .ok (.isub, 1) := by decide +kernel
theorem dX6_lower_27 : decode cX6_lower 27 = .ok (.istore_n 3, 1) := by decide +kernel
theorem dX6_lower_28 : decode cX6_lower 28 = .ok (.iconst 0, 1) := by decide +kernel
theorem dX6_lower_29 : decode cX6_lower 29 = .ok (.istore 4, 2) := by decide +kernel
theorem dX6_lower_31 : decode cX6_lower 31 = .ok (.iload 4, 2) := by decide +kernel
theorem dX6_lower_33 : decode cX6_lower 33 = .ok (.sipush 160, 3) := by decide +kernel
theorem dX6_lower_36 : decode cX6_lower 36 = .ok (.if_icmp .ge 64, 3) := by decide +kernel
theorem dX6_lower_39 : decode cX6_lower 39 = .ok (.iload_n 3, 1) := by decide +kernel
theorem dX6_lower_40 : decode cX6_lower 40 = .ok (.ifCond .le 43, 3) := by decide +kernel
theorem dX6_lower_43 : decode cX6_lower 43 = .ok (.aload_n 0, 1) := by decide +kernel
theorem dX6_lower_44 : decode cX6_lower 44 = .ok (.getfield 9, 3) := by decide +kernel
theorem dX6_lower_47 : decode cX6_lower 47 = .ok (.iload 4, 2) := by decide +kernel
theorem dX6_lower_49 : decode cX6_lower 49 = .ok (.aload_n 1, 1) := by decide +kernel
theorem dX6_lower_50 : decode cX6_lower 50 = .ok (.iload 4, 2) := by decide +kernel
theorem dX6_lower_52 : decode cX6_lower 52 = .ok (.iaload, 1) := by decide +kernel
theorem dX6_lower_53 : decode cX6_lower 53 = .ok (.sipush 16384, 3) := by decide +kernel
theorem dX6_lower_56 : decode cX6_lower 56 = .ok (.iload_n 3, 1) := by decide +kernel
theorem dX6_lower_57 : decode cX6_lower 57 = .ok (.iconst 1, 1) := by decide +kernel
theorem dX6_lower_58 : decode cX6_lower 58 = .ok (.isub, 1) := by decide +kernel
theorem dX6_lower_59 : decode cX6_lower 59 = .ok (.ishr, 1) := by decide +kernel
theorem dX6_lower_60 : decode cX6_lower 60 = .ok (.invokestatic 54, 3) := by decide +kernel
theorem dX6_lower_63 : decode cX6_lower 63 = .ok (.iastore, 1) := by decide +kernel
theorem dX6_lower_64 : decode cX6_lower 64 = .ok (.aload_n 1, 1) := by decide +kernel
theorem dX6_lower_65 : decode cX6_lower 65 = .ok (.iload 4, 2) := by decide +kernel
theorem dX6_lower_67 : decode cX6_lower 67 = .ok (.aload_n 0, 1) := by decide +kernel
theorem dX6_lower_68 : decode cX6_lower 68 = .ok (.getfield 9, 3) := by decide +kernel
theorem dX6_lower_71 : decode cX6_lower 71 = .ok (.iload 4, 2) := by decide +kernel
theorem dX6_lower_73 : decode cX6_lower 73 = .ok (.iaload, 1) := by decide +kernel
theorem dX6_lower_74 : decode cX6_lower 74 = .ok (.iload_n 3, 1) := by decide +kernel
theorem dX6_lower_75 : decode cX6_lower 75 = .ok (.ishl, 1) := by decide +kernel
theorem dX6_lower_76 : decode cX6_lower 76 = .ok (.invokestatic 57, 3) := by decide +kernel
theorem dX6_lower_79 : decode cX6_lower 79 = .ok (.iastore, 1) := by decide +kernel
theorem dX6_lower_80 : decode cX6_lower 80 = .ok (.goto 14, 3) := by decide +kernel
theorem dX6_lower_83 : decode cX6_lower 83 = .ok (.aload_n 0, 1) := by decide +kernel
theorem dX6_lower_84 : decode cX6_lower 84 = .ok (.getfield 9, 3) := by decide +kernel
theorem dX6_lower_87 : decode cX6_lower 87 = .ok (.iload 4, 2) := by decide +kernel
theorem dX6_lower_89 : decode cX6_lower 89 = .ok (.aload_n 1, 1) := by decide +kernel
theorem dX6_lower_90 : decode cX6_lower 90 = .ok (.iload 4, 2) := by decide +kernel
theorem dX6_lower_92 : decode cX6_lower 92 = .ok (.iaload, 1) := by decide +kernel
theorem dX6_lower_93 : decode cX6_lower 93 = .ok (.iastore, 1) := by decide +kernel
theorem dX6_lower_94 : decode cX6_lower 94 = .ok (.iinc 4 1, 3) := by decide +kernel
theorem dX6_lower_97 : decode cX6_lower 97 = .ok (.goto (-66), 3) := by decide +kernel
theorem dX6_lower_100 : decode cX6_lower 100 = .ok (.return_, 1) := by decide +kernel
theorem dX6_correlate_0 : decode cX6_correlate 0 = .ok (.iconst 0, 1) := by decide +kernel
theorem dX6_correlate_1 : decode cX6_correlate 1 = .ok (.istore_n 1, 1) := by decide +kernel
theorem dX6_correlate_2 : decode cX6_correlate 2 = .ok (.iload_n 1, 1) := by decide +kernel
theorem dX6_correlate_3 : decode cX6_correlate 3 = .ok (.bipush 8, 2) := by decide +kernel
theorem dX6_correlate_5 : decode cX6_correlate 5 = .ok (.if_icmp .gt 53, 3) := by decide +kernel
theorem dX6_correlate_8 : decode cX6_correlate 8 = .ok (.iconst 0, 1) := by decide +kernel
theorem dX6_correlate_9 : decode cX6_correlate 9 = .ok (.istore_n 2, 1) := by decide +kernel
theorem dX6_correlate_10 : decode cX6_correlate 10 = .ok (.iload_n 1, 1) := by decide +kernel
theorem dX6_correlate_11 : decode cX6_correlate 11 = .ok (.istore_n 3, 1) := by decide +kernel
theorem dX6_correlate_12 : decode cX6_correlate 12 = .ok (.iload_n 3, 1) := by decide +kernel
theorem dX6_correlate_13 : decode cX6_correlate 13 = .ok (.sipush 160, 3) := by decide +kernel
theorem dX6_correlate_16 : decode cX6_correlate 16 = .ok (.if_icmp .ge 27, 3) := by decide +kernel
theorem dX6_correlate_19 : decode cX6_correlate 19 = .ok (.iload_n 2, 1) := by decide +kernel
theorem dX6_correlate_20 : decode cX6_correlate 20 = .ok (.aload_n 0, 1) := by decide +kernel
theorem dX6_correlate_21 : decode cX6_correlate 21 = .ok (.getfield 9, 3) := by decide +kernel
theorem dX6_correlate_24 : decode cX6_correlate 24 = .ok (.iload_n 3, 1) := by decide +kernel
theorem dX6_correlate_25 : decode cX6_correlate 25 = .ok (.iaload, 1) := by decide +kernel
theorem dX6_correlate_26 : decode cX6_correlate 26 = .ok (.aload_n 0, 1) := by decide +kernel
theorem dX6_correlate_27 : decode cX6_correlate 27 = .ok (.getfield 9, 3) := by decide +kernel
theorem dX6_correlate_30 : decode cX6_correlate 30 = .ok (.iload_n 3, 1) := by decide +kernel
theorem dX6_correlate_31 : decode cX6_correlate 31 = .ok (.iload_n 1, 1) := by decide +kernel
theorem dX6_correlate_32 : decode cX6_correlate 32 = .ok (.isub, 1) := by decide +kernel
theorem dX6_correlate_33 : decode cX6_correlate 33 = .ok (.iaload, 1) := by decide +kernel
theorem dX6_correlate_34 : decode cX6_correlate 34 = .ok (.imul, 1) := by decide +kernel
theorem dX6_correlate_35 : decode cX6_correlate 35 = .ok (.iadd, 1) := by decide +kernel
theorem dX6_correlate_36 : decode cX6_correlate 36 = .ok (.istore_n 2, 1) := by decide +kernel
theorem dX6_correlate_37 : decode cX6_correlate 37 = .ok (.iinc 3 1, 3) := by decide +kernel
theorem dX6_correlate_40 : decode cX6_correlate 40 = .ok (.goto (-28), 3) := by decide +kernel
theorem dX6_correlate_43 : decode cX6_correlate 43 = .ok (.aload_n 0, 1) := by decide +kernel
theorem dX6_correlate_44 : decode cX6_correlate 44 = .ok (.getfield 15, 3) := by decide +kernel
theorem dX6_correlate_47 : decode cX6_correlate 47 = .ok (.iload_n 1, 1) := by decide +kernel
theorem dX6_correlate_48 : decode cX6_correlate 48 = .ok (.iconst 2, 1) := by decide +kernel
theorem dX6_correlate_49 : decode cX6_correlate 49 = .ok (.iload_n 2, 1) := by decide +kernel
theorem dX6_correlate_50 : decode cX6_correlate 50 = .ok (.imul, 1) := by decide +kernel
theorem dX6_correlate_51 : decode cX6_correlate 51 = .ok (.iastore, 1) := by decide +kernel
theorem dX6_correlate_52 : decode cX6_correlate 52 = .ok (.iinc 1 1, 3) := by decide +kernel
theorem dX6_correlate_55 : decode cX6_correlate 55 = .ok (.goto (-53), 3) := by decide +kernel
theorem dX6_correlate_58 : decode cX6_correlate 58 = .ok (.return_, 1) := by decide +kernel
theorem dX6_reflect_0 : decode cX6_reflect 0 = .ok (.aload_n 0, 1) := by decide +kernel
theorem dX6_reflect_1 : decode cX6_reflect 1 = .ok (.getfield 24, 3) := by decide +kernel
theorem dX6_reflect_4 : decode cX6_reflect 4 = .ok (.iconst 0, 1) := by decide +kernel
theorem dX6_reflect_5 : decode cX6_reflect 5 = .ok (.invokestatic 60, 3) := by decide +kernel
theorem dX6_reflect_8 : decode cX6_reflect 8 = .ok (.aload_n 0, 1) := by decide +kernel
theorem dX6_reflect_9 : decode cX6_reflect 9 = .ok (.getfield 15, 3) := by decide +kernel
theorem dX6_reflect_12 : decode cX6_reflect 12 = .ok (.iconst 0, 1) := by decide +kernel
theorem dX6_reflect_13 : decode cX6_reflect 13 = .ok (.iaload, 1) := by decide +kernel
theorem dX6_reflect_14 : decode cX6_reflect 14 = .ok (.ifCond .ne 4, 3) := by decide +kernel
theorem dX6_reflect_17 : decode cX6_reflect 17 = .ok (.return_, 1) := by decide +kernel
theorem dX6_reflect_18 : decode cX6_reflect 18 = .ok (.aload_n 0, 1) := by decide +kernel
theorem dX6_reflect_19 : decode cX6_reflect 19 = .ok (.getfield 15, 3) := by decide +kernel
theorem dX6_reflect_22 : decode cX6_reflect 22 = .ok (.iconst 0, 1) := by decide +kernel
theorem dX6_reflect_23 : decode cX6_reflect 23 = .ok (.iaload, 1) := by decide +kernel
theorem dX6_reflect_24 : decode cX6_reflect 24 = .ok (.invokestatic 51, 3) := by decide +kernel
theorem dX6_reflect_27 : decode cX6_reflect 27 = .ok (.istore_n 1, 1) := by decide +kernel
theorem dX6_reflect_28 : decode cX6_reflect 28 = .ok (.iconst 0, 1) := by decide +kernel
theorem dX6_reflect_29 : decode cX6_reflect 29 = .ok (.istore_n 2, 1) := by decide +kernel
theorem dX6_reflect_30 : decode cX6_reflect 30 = .ok (.iload_n 2, 1) := by decide +kernel
theorem dX6_reflect_31 : decode cX6_reflect 31 = .ok (.bipush 8, 2) := by decide +kernel
theorem dX6_reflect_33 : decode cX6_reflect 33 = .ok (.if_icmp .gt 38, 3) := by decide +kernel
theorem dX6_reflect_36 : decode cX6_reflect 36 = .ok (.aload_n 0, 1) := by decide +kernel
theorem dX6_reflect_37 : decode cX6_reflect 37 = .ok (.getfield 18, 3) := by decide +kernel
theorem dX6_reflect_40 : decode cX6_reflect 40 = .ok (.iload_n 2, 1) := by decide +kernel
theorem dX6_reflect_41 : decode cX6_reflect 41 = .ok (.aload_n 0, 1) := by decide +kernel
theorem dX6_reflect_42 : decode cX6_reflect 42 = .ok (.getfield 15, 3) := by decide +kernel
theorem dX6_reflect_45 : decode cX6_reflect 45 = .ok (.iload_n 2, 1) := by decide +kernel
theorem dX6_reflect_46 : decode cX6_reflect 46 = .ok (.iaload, 1) := by decide +kernel
theorem dX6_reflect_47 : decode cX6_reflect 47 = .ok (.iload_n 1, 1) := by decide +kernel
theorem dX6_reflect_48 : decode cX6_reflect 48 = .ok (.ishl, 1) := by decide +kernel
theorem dX6_reflect_49 : decode cX6_reflect 49 = .ok (.bipush 16, 2) := by decide +kernel
theorem dX6_reflect_51 : decode cX6_reflect 51 = .ok (.ishr, 1) := by decide +kernel
theorem dX6_reflect_52 : decode cX6_reflect 52 = .ok (.iastore, 1) := by decide +kernel
theorem dX6_reflect_53 : decode cX6_reflect 53 = .ok (.aload_n 0, 1) := by decide +kernel
theorem dX6_reflect_54 : decode cX6_reflect 54 = .ok (.getfield 21, 3) := by decide +kernel
theorem dX6_reflect_57 : decode cX6_reflect 57 = .ok (.iload_n 2, 1) := by decide +kernel
theorem dX6_reflect_58 : decode cX6_reflect 58 = .ok (.aload_n 0, 1) := by decide +kernel
theorem dX6_reflect_59 : decode cX6_reflect 59 = .ok (.getfield 18, 3) := by decide +kernel
theorem dX6_reflect_62 : decode cX6_reflect 62 = .ok (.iload_n 2, 1) := by decide +kernel
theorem dX6_reflect_63 : decode cX6_reflect 63 = .ok (.iaload, 1) := by decide +kernel
theorem dX6_reflect_64 : decode cX6_reflect 64 = .ok (.iastore, 1) := by decide +kernel
theorem dX6_reflect_65 : decode cX6_reflect 65 = .ok (.iinc 2 1, 3) := by decide +kernel
theorem dX6_reflect_68 : decode cX6_reflect 68 = .ok (.goto (-38), 3) := by decide +kernel
theorem dX6_reflect_71 : decode cX6_reflect 71 = .ok (.iconst 1, 1) := by decide +kernel
theorem dX6_reflect_72 : decode cX6_reflect 72 = .ok (.istore_n 2, 1) := by decide +kernel
theorem dX6_reflect_73 : decode cX6_reflect 73 = .ok (.iload_n 2, 1) := by decide +kernel
theorem dX6_reflect_74 : decode cX6_reflect 74 = .ok (.bipush 8, 2) := by decide +kernel
theorem dX6_reflect_76 : decode cX6_reflect 76 = .ok (.if_icmp .gt 64, 3) := by decide +kernel
theorem dX6_reflect_79 : decode cX6_reflect 79 = .ok (.aload_n 0, 1) := by decide +kernel
theorem dX6_reflect_80 : decode cX6_reflect 80 = .ok (.getfield 18, 3) := by decide +kernel
theorem dX6_reflect_83 : decode cX6_reflect 83 = .ok (.iconst 0, 1) := by decide +kernel
theorem dX6_reflect_84 : decode cX6_reflect 84 = .ok (.iaload, 1) := by decide +kernel
theorem dX6_reflect_85 : decode cX6_reflect 85 = .ok (.aload_n 0, 1) := by decide +kernel
theorem dX6_reflect_86 : decode cX6_reflect 86 = .ok (.getfield 18, 3) := by decide +kernel
theorem dX6_reflect_89 : decode cX6_reflect 89 = .ok (.iconst 1, 1) := by decide +kernel
theorem dX6_reflect_90 : decode cX6_reflect 90 = .ok (.iaload, 1) := by decide +kernel
theorem dX6_reflect_91 : decode cX6_reflect 91 = .ok (.invokestatic 66, 3) := by decide +kernel
theorem dX6_reflect_94 : decode cX6_reflect 94 = .ok (.if_icmp .ge 4, 3) := by decide +kernel
theorem dX6_reflect_97 : decode cX6_reflect 97 = .ok (.return_, 1) := by decide +kernel
theorem dX6_reflect_98 : decode cX6_reflect 98 = .ok (.aload_n 0, 1) := by decide +kernel
theorem dX6_reflect_99 : decode cX6_reflect 99 = .ok (.getfield 24, 3) := by decide +kernel
theorem dX6_reflect_102 : decode cX6_reflect 102 = .ok (.iload_n 2, 1) := by decide +kernel
theorem dX6_reflect_103 : decode cX6_reflect 103 = .ok (.iconst 1, 1) := by decide +kernel
theorem dX6_reflect_104 : decode cX6_reflect 104 = .ok (.isub, 1) := by decide +kernel
theorem dX6_reflect_105 : decode cX6_reflect 105 = .ok (.aload_n 0, 1) := by decide +kernel
theorem dX6_reflect_106 : decode cX6_reflect 106 = .ok (.getfield 18, 3) := by decide +kernel
theorem dX6_reflect_109 : decode cX6_reflect 109 = .ok (.iconst 1, 1) := by decide +kernel
theorem dX6_reflect_110 : decode cX6_reflect 110 = .ok (.iaload, 1) := by decide +kernel
theorem dX6_reflect_111 : decode cX6_reflect 111 = .ok (.aload_n 0, 1) := by decide +kernel
theorem dX6_reflect_112 : decode cX6_reflect 112 = .ok (.getfield 18, 3) := by decide +kernel
theorem dX6_reflect_115 : decode cX6_reflect 115 = .ok (.iconst 0, 1) := by decide +kernel
theorem dX6_reflect_116 : decode cX6_reflect 116 = .ok (.iaload, 1) := by decide +kernel
theorem dX6_reflect_117 : decode cX6_reflect 117 = .ok (.invokestatic 69, 3) := by decide +kernel
theorem dX6_reflect_120 : decode cX6_reflect 120 = .ok (.iastore, 1) := by decide +kernel
theorem dX6_reflect_121 : decode cX6_reflect 121 = .ok (.aload_n 0, 1) := by decide +kernel
theorem dX6_reflect_122 : decode cX6_reflect 122 = .ok (.iload_n 2, 1) := by decide +kernel
theorem dX6_reflect_123 : decode cX6_reflect 123 = .ok (.aload_n 0, 1) := by decide +kernel
theorem dX6_reflect_124 : decode cX6_reflect 124 = .ok (.getfield 24, 3) := by decide +kernel
theorem dX6_reflect_127 : decode cX6_reflect 127 = .ok (.iload_n 2, 1) := by decide +kernel
theorem dX6_reflect_128 : decode cX6_reflect 128 = .ok (.iconst 1, 1) := by decide +kernel
theorem dX6_reflect_129 : decode cX6_reflect 129 = .ok (.isub, 1) := by decide +kernel
theorem dX6_reflect_130 : decode cX6_reflect 130 = .ok (.iaload, 1) := by decide +kernel
theorem dX6_reflect_131 : decode cX6_reflect 131 = .ok (.invokevirtual 72, 3) := by decide +kernel
theorem dX6_reflect_134 : decode cX6_reflect 134 = .ok (.iinc 2 1, 3) := by decide +kernel
theorem dX6_reflect_137 : decode cX6_reflect 137 = .ok (.goto (-64), 3) := by decide +kernel
theorem dX6_reflect_140 : decode cX6_reflect 140 = .ok (.return_, 1) := by decide +kernel
theorem dX6_reflection_0 : decode cX6_reflection 0 = .ok (.iload_n 0, 1) := by decide +kernel
theorem dX6_reflection_1 : decode cX6_reflection 1 = .ok (.ifCond .eq 7, 3) := by decide +kernel
theorem dX6_reflection_4 : decode cX6_reflection 4 = .ok (.iload_n 1, 1) := by decide +kernel
theorem dX6_reflection_5 : decode cX6_reflection 5 = .ok (.ifCond .gt 5, 3) := by decide +kernel
theorem dX6_reflection_8 : decode cX6_reflection 8 = .ok (.iconst 0, 1) := by decide +kernel
theorem dX6_reflection_9 : decode cX6_reflection 9 = .ok (.ireturn, 1) := by decide +kernel
theorem dX6_reflection_10 : decode cX6_reflection 10 = .ok (.iload_n 0, 1) := by decide +kernel
theorem dX6_reflection_11 : decode cX6_reflection 11 = .ok (.invokestatic 66, 3) := by decide +kernel
theorem dX6_reflection_14 : decode cX6_reflection 14 = .ok (.ldc 76, 2) := by decide +kernel
theorem dX6_reflection_16 : decode cX6_reflection 16 = .ok (.imul, 1) := by decide +kernel
theorem dX6_reflection_17 : decode cX6_reflection 17 = .ok (.iload_n 1, 1) := by decide +kernel
theorem dX6_reflection_18 : decode cX6_reflection 18 = .ok (.idiv, 1) := by decide +kernel
theorem dX6_reflection_19 : decode cX6_reflection 19 = .ok (.istore_n 2, 1) := by decide +kernel
theorem dX6_reflection_20 : decode cX6_reflection 20 = .ok (.iload_n 2, 1) := by decide +kernel
theorem dX6_reflection_21 : decode cX6_reflection 21 = .ok (.sipush 32767, 3) := by decide +kernel
theorem dX6_reflection_24 : decode cX6_reflection 24 = .ok (.if_icmp .le 9, 3) := by decide +kernel
theorem dX6_reflection_27 : decode cX6_reflection 27 = .ok (.sipush 32767, 3) := by decide +kernel
theorem dX6_reflection_30 : decode cX6_reflection 30 = .ok (.goto 4, 3) := by decide +kernel
theorem dX6_reflection_33 : decode cX6_reflection 33 = .ok (.iload_n 2, 1) := by decide +kernel
theorem dX6_reflection_34 : decode cX6_reflection 34 = .ok (.istore_n 3, 1) := by decide +kernel
theorem dX6_reflection_35 : decode cX6_reflection 35 = .ok (.iload_n 0, 1) := by decide +kernel
theorem dX6_reflection_36 : decode cX6_reflection 36 = .ok (.ifCond .le 8, 3) := by decide +kernel
theorem dX6_reflection_39 : decode cX6_reflection 39 = .ok (.iload_n 3, 1) := by decide +kernel
theorem dX6_reflection_40 : decode cX6_reflection 40 = .ok (.ineg, 1) := by decide +kernel
theorem dX6_reflection_41 : decode cX6_reflection 41 = .ok (.goto 4, 3) := by decide +kernel
theorem dX6_reflection_44 : decode cX6_reflection 44 = .ok (.iload_n 3, 1) := by decide +kernel
theorem dX6_reflection_45 : decode cX6_reflection 45 = .ok (.ireturn, 1) := by decide +kernel
theorem dX6_fold_0 : decode cX6_fold 0 = .ok (.aload_n 0, 1) := by decide +kernel
theorem dX6_fold_1 : decode cX6_fold 1 = .ok (.getfield 18, 3) := by decide +kernel
theorem dX6_fold_4 : decode cX6_fold 4 = .ok (.iconst 0, 1) := by decide +kernel
theorem dX6_fold_5 : decode cX6_fold 5 = .ok (.aload_n 0, 1) := by decide +kernel
theorem dX6_fold_6 : decode cX6_fold 6 = .ok (.getfield 18, 3) := by decide +kernel
theorem dX6_fold_9 : decode cX6_fold 9 = .ok (.iconst 0, 1) := by decide +kernel
theorem dX6_fold_10 : decode cX6_fold 10 = .ok (.iaload, 1) := by decide +kernel
theorem dX6_fold_11 : decode cX6_fold 11 = .ok (.aload_n 0, 1) := by decide +kernel
theorem dX6_fold_12 : decode cX6_fold 12 = .ok (.getfield 18, 3) := by decide +kernel
theorem dX6_fold_15 : decode cX6_fold 15 = .ok (.iconst 1, 1) := by decide +kernel
theorem dX6_fold_16 : decode cX6_fold 16 = .ok (.iaload, 1) := by decide +kernel
theorem dX6_fold_17 : decode cX6_fold 17 = .ok (.iload_n 2, 1) := by decide +kernel
theorem dX6_fold_18 : decode cX6_fold 18 = .ok (.invokestatic 54, 3) := by decide +kernel
theorem dX6_fold_21 : decode cX6_fold 21 = .ok (.iadd, 1) := by decide +kernel
theorem dX6_fold_22 : decode cX6_fold 22 = .ok (.invokestatic 57, 3) := by decide +kernel
theorem dX6_fold_25 : decode cX6_fold 25 = .ok (.iastore, 1) := by decide +kernel
theorem dX6_fold_26 : decode cX6_fold 26 = .ok (.iconst 1, 1) := by decide +kernel
theorem dX6_fold_27 : decode cX6_fold 27 = .ok (.istore_n 3, 1) := by decide +kernel
theorem dX6_fold_28 : decode cX6_fold 28 = .ok (.iload_n 3, 1) := by decide +kernel
theorem dX6_fold_29 : decode cX6_fold 29 = .ok (.bipush 8, 2) := by decide +kernel
theorem dX6_fold_31 : decode cX6_fold 31 = .ok (.iload_n 1, 1) := by decide +kernel
theorem dX6_fold_32 : decode cX6_fold 32 = .ok (.isub, 1) := by decide +kernel
theorem dX6_fold_33 : decode cX6_fold 33 = .ok (.if_icmp .gt 65, 3) := by decide +kernel
theorem dX6_fold_36 : decode cX6_fold 36 = .ok (.aload_n 0, 1) := by decide +kernel
theorem dX6_fold_37 : decode cX6_fold 37 = .ok (.getfield 18, 3) := by decide +kernel
theorem dX6_fold_40 : decode cX6_fold 40 = .ok (.iload_n 3, 1) := by decide +kernel
theorem dX6_fold_41 : decode cX6_fold 41 = .ok (.aload_n 0, 1) := by decide +kernel
theorem dX6_fold_42 : decode cX6_fold 42 = .ok (.getfield 18, 3) := by decide +kernel
theorem dX6_fold_45 : decode cX6_fold 45 = .ok (.iload_n 3, 1) := by decide +kernel
theorem dX6_fold_46 : decode cX6_fold 46 = .ok (.iconst 1, 1) := by decide +kernel
theorem dX6_fold_47 : decode cX6_fold 47 = .ok (.iadd, 1) := by decide +kernel
theorem dX6_fold_48 : decode cX6_fold 48 = .ok (.iaload, 1) := by decide +kernel
theorem dX6_fold_49 : decode cX6_fold 49 = .ok (.aload_n 0, 1) := by decide +kernel
theorem dX6_fold_50 : decode cX6_fold 50 = .ok (.getfield 21, 3) := by decide +kernel
theorem dX6_fold_53 : decode cX6_fold 53 = .ok (.iload_n 3, 1) := by decide +kernel
theorem dX6_fold_54 : decode cX6_fold 54 = .ok (.iaload, 1) := by decide +kernel
theorem dX6_fold_55 : decode cX6_fold 55 = .ok (.iload_n 2, 1) := by decide +kernel
theorem dX6_fold_56 : decode cX6_fold 56 = .ok (.invokestatic 54, 3) := by decide +kernel
theorem dX6_fold_59 : decode cX6_fold 59 = .ok (.iadd, 1) := by decide +kernel
theorem dX6_fold_60 : decode cX6_fold 60 = .ok (.invokestatic 57, 3) := by decide +kernel
theorem dX6_fold_63 : decode cX6_fold 63 = .ok (.iastore, 1) := by decide +kernel
theorem dX6_fold_64 : decode cX6_fold 64 = .ok (.aload_n 0, 1) := by decide +kernel
theorem dX6_fold_65 : decode cX6_fold 65 = .ok (.getfield 21, 3) := by decide +kernel
theorem dX6_fold_68 : decode cX6_fold 68 = .ok (.iload_n 3, 1) := by decide +kernel
theorem dX6_fold_69 : decode cX6_fold 69 = .ok (.aload_n 0, 1) := by decide +kernel
theorem dX6_fold_70 : decode cX6_fold 70 = .ok (.getfield 21, 3) := by decide +kernel
theorem dX6_fold_73 : decode cX6_fold 73 = .ok (.iload_n 3, 1) := by decide +kernel
theorem dX6_fold_74 : decode cX6_fold 74 = .ok (.iaload, 1) := by decide +kernel
theorem dX6_fold_75 : decode cX6_fold 75 = .ok (.aload_n 0, 1) := by decide +kernel
theorem dX6_fold_76 : decode cX6_fold 76 = .ok (.getfield 18, 3) := by decide +kernel
theorem dX6_fold_79 : decode cX6_fold 79 = .ok (.iload_n 3, 1) := by decide +kernel
theorem dX6_fold_80 : decode cX6_fold 80 = .ok (.iconst 1, 1) := by decide +kernel
theorem dX6_fold_81 : decode cX6_fold 81 = .ok (.iadd, 1) := by decide +kernel
theorem dX6_fold_82 : decode cX6_fold 82 = .ok (.iaload, 1) := by decide +kernel
theorem dX6_fold_83 : decode cX6_fold 83 = .ok (.iload_n 2, 1) := by decide +kernel
theorem dX6_fold_84 : decode cX6_fold 84 = .ok (.invokestatic 54, 3) := by decide +kernel
theorem dX6_fold_87 : decode cX6_fold 87 = .ok (.iadd, 1) := by decide +kernel
theorem dX6_fold_88 : decode cX6_fold 88 = .ok (.invokestatic 57, 3) := by decide +kernel
theorem dX6_fold_91 : decode cX6_fold 91 = .ok (.iastore, 1) := by decide +kernel
theorem dX6_fold_92 : decode cX6_fold 92 = .ok (.iinc 3 1, 3) := by decide +kernel
theorem dX6_fold_95 : decode cX6_fold 95 = .ok (.goto (-67), 3) := by decide +kernel
theorem dX6_fold_98 : decode cX6_fold 98 = .ok (.return_, 1) := by decide +kernel
theorem dX6_bent_0 : decode cX6_bent 0 = .ok (.iload_n 0, 1) := by decide +kernel
theorem dX6_bent_1 : decode cX6_bent 1 = .ok (.invokestatic 66, 3) := by decide +kernel
theorem dX6_bent_4 : decode cX6_bent 4 = .ok (.istore_n 1, 1) := by decide +kernel
theorem dX6_bent_5 : decode cX6_bent 5 = .ok (.iload_n 1, 1) := by decide +kernel
theorem dX6_bent_6 : decode cX6_bent 6 = .ok (.sipush 22118, 3) := by decide +kernel
theorem dX6_bent_9 : decode cX6_bent 9 = .ok (.if_icmp .ge 9, 3) := by decide +kernel
theorem dX6_bent_12 : decode cX6_bent 12 = .ok (.iload_n 1, 1) := by decide +kernel
theorem dX6_bent_13 : decode cX6_bent 13 = .ok (.iconst 1, 1) := by decide +kernel
theorem dX6_bent_14 : decode cX6_bent 14 = .ok (.ishr, 1) := by decide +kernel
theorem dX6_bent_15 : decode cX6_bent 15 = .ok (.goto 25, 3) := by decide +kernel
theorem dX6_bent_18 : decode cX6_bent 18 = .ok (.iload_n 1, 1) := by decide +kernel
theorem dX6_bent_19 : decode cX6_bent 19 = .ok (.sipush 31130, 3) := by decide +kernel
theorem dX6_bent_22 : decode cX6_bent 22 = .ok (.if_icmp .ge 11, 3) := by decide +kernel
theorem dX6_bent_25 : decode cX6_bent 25 = .ok (.iload_n 1, 1) := by decide +kernel
theorem dX6_bent_26 : decode cX6_bent 26 = .ok (.sipush 11059, 3) := by decide +kernel
theorem dX6_bent_29 : decode cX6_bent 29 = .ok (.isub, 1) := by decide +kernel
theorem dX6_bent_30 : decode cX6_bent 30 = .ok (.goto 10, 3) := by decide +kernel
theorem dX6_bent_33 : decode cX6_bent 33 = .ok (.iload_n 1, 1) := by decide +kernel
theorem dX6_bent_34 : decode cX6_bent 34 = .ok (.sipush 26112, 3) := by decide +kernel
theorem dX6_bent_37 : decode cX6_bent 37 = .ok (.isub, 1) := by decide +kernel
theorem dX6_bent_38 : decode cX6_bent 38 = .ok (.iconst 4, 1) := by decide +kernel
theorem dX6_bent_39 : decode cX6_bent 39 = .ok (.imul, 1) := by decide +kernel
theorem dX6_bent_40 : decode cX6_bent 40 = .ok (.istore_n 2, 1) := by decide +kernel
theorem dX6_bent_41 : decode cX6_bent 41 = .ok (.iload_n 0, 1) := by decide +kernel
theorem dX6_bent_42 : decode cX6_bent 42 = .ok (.iload_n 2, 1) := by decide +kernel
theorem dX6_bent_43 : decode cX6_bent 43 = .ok (.invokestatic 77, 3) := by decide +kernel
theorem dX6_bent_46 : decode cX6_bent 46 = .ok (.ireturn, 1) := by decide +kernel
theorem dX6_filterNumber_0 : decode cX6_filterNumber 0 = .ok (.getstatic 80, 3) := by decide +kernel
theorem dX6_filterNumber_3 : decode cX6_filterNumber 3 = .ok (.iload_n 0, 1) := by decide +kernel
theorem dX6_filterNumber_4 : decode cX6_filterNumber 4 = .ok (.iaload, 1) := by decide +kernel
theorem dX6_filterNumber_5 : decode cX6_filterNumber 5 = .ok (.iload_n 1, 1) := by decide +kernel
theorem dX6_filterNumber_6 : decode cX6_filterNumber 6 = .ok (.invokestatic 83, 3) := by decide +kernel
theorem dX6_filterNumber_9 : decode cX6_filterNumber 9 = .ok (.getstatic 86, 3) := by decide +kernel
theorem dX6_filterNumber_12 : decode cX6_filterNumber 12 = .ok (.iload_n 0, 1) := by decide +kernel
theorem dX6_filterNumber_13 : decode cX6_filterNumber 13 = .ok (.iaload, 1) := by decide +kernel
theorem dX6_filterNumber_14 : decode cX6_filterNumber 14 = .ok (.iadd, 1) := by decide +kernel
theorem dX6_filterNumber_15 : decode cX6_filterNumber 15 = .ok (.invokestatic 57, 3) := by decide +kernel
theorem dX6_filterNumber_18 : decode cX6_filterNumber 18 = .ok (.istore_n 2, 1) := by decide +kernel
theorem dX6_filterNumber_19 : decode cX6_filterNumber 19 = .ok (.iload_n 2, 1) := by decide +kernel
theorem dX6_filterNumber_20 : decode cX6_filterNumber 20 = .ok (.sipush 256, 3) := by decide +kernel
theorem dX6_filterNumber_23 : decode cX6_filterNumber 23 = .ok (.iadd, 1) := by decide +kernel
theorem dX6_filterNumber_24 : decode cX6_filterNumber 24 = .ok (.invokestatic 57, 3) := by decide +kernel
theorem dX6_filterNumber_27 : decode cX6_filterNumber 27 = .ok (.bipush 9, 2) := by decide +kernel
theorem dX6_filterNumber_29 : decode cX6_filterNumber 29 = .ok (.ishr, 1) := by decide +kernel
theorem dX6_filterNumber_30 : decode cX6_filterNumber 30 = .ok (.istore_n 3, 1) := by decide +kernel
theorem dX6_filterNumber_31 : decode cX6_filterNumber 31 = .ok (.iload_n 3, 1) := by decide +kernel
theorem dX6_filterNumber_32 : decode cX6_filterNumber 32 = .ok (.getstatic 89, 3) := by decide +kernel
theorem dX6_filterNumber_35 : decode cX6_filterNumber 35 = .ok (.iload_n 0, 1) := by decide +kernel
theorem dX6_filterNumber_36 : decode cX6_filterNumber 36 = .ok (.iaload, 1) := by decide +kernel
theorem dX6_filterNumber_37 : decode cX6_filterNumber 37 = .ok (.if_icmp .ge 11, 3) := by decide +kernel
theorem dX6_filterNumber_40 : decode cX6_filterNumber 40 = .ok (.getstatic 89, 3) := by decide +kernel
theorem dX6_filterNumber_43 : decode cX6_filterNumber 43 = .ok (.iload_n 0, 1) := by decide +kernel
theorem dX6_filterNumber_44 : decode cX6_filterNumber 44 = .ok (.iaload, 1) := by decide +kernel
theorem dX6_filterNumber_45 : decode cX6_filterNumber 45 = .ok (.goto 4, 3) := by decide +kernel
theorem dX6_filterNumber_48 : decode cX6_filterNumber 48 = .ok (.iload_n 3, 1) := by decide +kernel
theorem dX6_filterNumber_49 : decode cX6_filterNumber 49 = .ok (.istore 4, 2) := by decide +kernel
theorem dX6_filterNumber_51 : decode cX6_filterNumber 51 = .ok (.iload 4, 2) := by decide +kernel
theorem dX6_filterNumber_53 : decode cX6_filterNumber 53 = .ok (.getstatic 92, 3) := by decide +kernel
theorem dX6_filterNumber_56 : decode cX6_filterNumber 56 = .ok (.iload_n 0, 1) := by decide +kernel
theorem dX6_filterNumber_57 : decode cX6_filterNumber 57 = .ok (.iaload, 1) := by decide +kernel
theorem dX6_filterNumber_58 : decode cX6_filterNumber 58 = .ok (.if_icmp .le 11, 3) := by decide +kernel
theorem dX6_filterNumber_61 : decode cX6_filterNumber 61 = .ok (.getstatic 92, 3) := by decide +kernel
theorem dX6_filterNumber_64 : decode cX6_filterNumber 64 = .ok (.iload_n 0, 1) := by decide +kernel
theorem dX6_filterNumber_65 : decode cX6_filterNumber 65 = .ok (.iaload, 1) := by decide +kernel
theorem dX6_filterNumber_66 : decode cX6_filterNumber 66 = .ok (.goto 5, 3) := by decide +kernel
theorem dX6_filterNumber_69 : decode cX6_filterNumber 69 = .ok (.iload 4, 2) := by decide +kernel
theorem dX6_filterNumber_71 : decode cX6_filterNumber 71 = .ok (.getstatic 89, 3) := by decide +kernel
theorem dX6_filterNumber_74 : decode cX6_filterNumber 74 = .ok (.iload_n 0, 1) := by decide +kernel
theorem dX6_filterNumber_75 : decode cX6_filterNumber 75 = .ok (.iaload, 1) := by decide +kernel
theorem dX6_filterNumber_76 : decode cX6_filterNumber 76 = .ok (.isub, 1) := by decide +kernel
theorem dX6_filterNumber_77 : decode cX6_filterNumber 77 = .ok (.ireturn, 1) := by decide +kernel
theorem dX7_init_0 : decode cX7_init 0 = .ok (.aload_n 0, 1) := by decide +kernel
theorem dX7_init_1 : decode cX7_init 1 = .ok (.invokespecial 3, 3) := by decide +kernel
theorem dX7_init_4 : decode cX7_init 4 = .ok (.aload_n 0, 1) := by decide +kernel
theorem dX7_init_5 : decode cX7_init 5 = .ok (.bipush 40, 2) := by decide +kernel
theorem dX7_init_7 : decode cX7_init 7 = .ok (.newarray .int, 2) := by decide +kernel
theorem dX7_init_9 : decode cX7_init 9 = .ok (.putfield 9, 3) := by decide +kernel
theorem dX7_init_12 : decode cX7_init 12 = .ok (.return_, 1) := by decide +kernel
theorem dX7_scaleBy_0 : decode cX7_scaleBy 0 = .ok (.iload_n 1, 1) := by decide +kernel
theorem dX7_scaleBy_1 : decode cX7_scaleBy 1 = .ok (.bipush 15, 2) := by decide +kernel
theorem dX7_scaleBy_3 : decode cX7_scaleBy 3 = .ok (.if_icmp .le 11, 3) := by decide +kernel
theorem dX7_scaleBy_6 : decode cX7_scaleBy 6 = .ok (.iload_n 1, 1) := by decide +kernel
theorem dX7_scaleBy_7 : decode cX7_scaleBy 7 = .ok (.iconst 3, 1) := by decide +kernel
theorem dX7_scaleBy_8 : decode cX7_scaleBy 8 = .ok (.ishr, 1) := by decide +kernel
theorem dX7_scaleBy_9 : decode cX7_scaleBy 9 = .ok (.iconst 1, 1) := by decide +kernel
theorem dX7_scaleBy_10 : decode cX7_scaleBy 10 = .ok (.isub, 1) := by decide +kernel
theorem dX7_scaleBy_11 : decode cX7_scaleBy 11 = .ok (.goto 4, 3) := by decide +kernel
theorem dX7_scaleBy_14 : decode cX7_scaleBy 14 = .ok (.iconst 0, 1) := by decide +kernel
theorem dX7_scaleBy_15 : decode cX7_scaleBy 15 = .ok (.istore_n 2, 1) := by decide +kernel
theorem dX7_scaleBy_16 : decode cX7_scaleBy 16 = .ok (.iload_n 1, 1) := by decide +kernel
theorem dX7_scaleBy_17 : decode cX7_scaleBy 17 = .ok (.bipush 8, 2) := by decide +kernel
theorem dX7_scaleBy_19 : decode cX7_scaleBy 19 = .ok (.iload_n 2, 1) := by decide +kernel
theorem dX7_scaleBy_20 : decode cX7_scaleBy 20 = .ok (.imul, 1) := by decide +kernel
theorem dX7_scaleBy_21 : decode cX7_scaleBy 21 = .ok (.isub, 1) := by decide +kernel
theorem dX7_scaleBy_22 : decode cX7_scaleBy 22 = .ok (.istore_n 3, 1) := by decide +kernel
theorem dX7_scaleBy_23 : decode cX7_scaleBy 23 = .ok (.iload_n 3, 1) := by decide +kernel
theorem dX7_scaleBy_24 : decode cX7_scaleBy 24 = .ok (.ifCond .ne 9, 3) := by decide +kernel
theorem dX7_scaleBy_27 : decode cX7_scaleBy 27 = .ok (.bipush (-4), 2) := by decide +kernel
theorem dX7_scaleBy_29 : decode cX7_scaleBy 29 = .ok (.istore_n 2, 1) := by decide +kernel
theorem dX7_scaleBy_30 : decode cX7_scaleBy 30 = .ok (.bipush 15, 2) := by decide +kernel
theorem dX7_scaleBy_32 : decode cX7_scaleBy 32 = .ok (.istore_n 3, 1) := by decide +kernel
theorem dX7_scaleBy_33 : decode cX7_scaleBy 33 = .ok (.iconst 0, 1) := by decide +kernel
theorem dX7_scaleBy_34 : decode cX7_scaleBy 34 = .ok (.istore 4, 2) := by decide +kernel
theorem dX7_scaleBy_36 : decode cX7_scaleBy 36 = .ok (.iload 4, 2) := by decide +kernel
theorem dX7_scaleBy_38 : decode cX7_scaleBy 38 = .ok (.iconst 3, 1) := by decide +kernel
theorem dX7_scaleBy_39 : decode cX7_scaleBy 39 = .ok (.if_icmp .ge 24, 3) := by decide +kernel
theorem dX7_scaleBy_42 : decode cX7_scaleBy 42 = .ok (.iload_n 3, 1) := by decide +kernel
theorem dX7_scaleBy_43 : decode cX7_scaleBy 43 = .ok (.bipush 7, 2) := by decide +kernel
theorem dX7_scaleBy_45 : decode cX7_scaleBy 45 = .ok (.if_icmp .gt 18, 3) := by decide +kernel
theorem dX7_scaleBy_48 : decode cX7_scaleBy 48 = .ok (.iconst 2, 1) := by decide +kernel
theorem dX7_scaleBy_49 : decode cX7_scaleBy 49 = .ok (.iload_n 3, 1) := by decide +kernel
theorem dX7_scaleBy_50 : decode cX7_scaleBy 50 = .ok (.imul, 1) := by decide +kernel
theorem dX7_scaleBy_51 : decode cX7_scaleBy 51 = .ok (.iconst 1, 1) := by decide +kernel
theorem dX7_scaleBy_52 : decode cX7_scaleBy 52 = .ok (.iadd, 1) := by decide +kernel
theorem dX7_scaleBy_53 : decode cX7_scaleBy 53 = .ok (.istore_n 3, 1) := by decide +kernel
theorem dX7_scaleBy_54 : decode cX7_scaleBy 54 = .ok (.iinc 2 (-1), 3) := by decide +kernel
theorem dX7_scaleBy_57 : decode cX7_scaleBy 57 = .ok (.iinc 4 1, 3) := by decide +kernel
theorem dX7_scaleBy_60 : decode cX7_scaleBy 60 = .ok (.goto (-24), 3) := by decide +kernel
theorem dX7_scaleBy_63 : decode cX7_scaleBy 63 = .ok (.aload_n 0, 1) := by decide +kernel
theorem dX7_scaleBy_64 : decode cX7_scaleBy 64 = .ok (.bipush 6, 2) := by decide +kernel
theorem dX7_scaleBy_66 : decode cX7_scaleBy 66 = .ok (.iload_n 2, 1) := by decide +kernel
theorem dX7_scaleBy_67 : decode cX7_scaleBy 67 = .ok (.isub, 1) := by decide +kernel
theorem dX7_scaleBy_68 : decode cX7_scaleBy 68 = .ok (.putfield 15, 3) := by decide +kernel
theorem dX7_scaleBy_71 : decode cX7_scaleBy 71 = .ok (.aload_n 0, 1) := by decide +kernel
theorem dX7_scaleBy_72 : decode cX7_scaleBy 72 = .ok (.iload_n 3, 1) := by decide +kernel
theorem dX7_scaleBy_73 : decode cX7_scaleBy 73 = .ok (.bipush 8, 2) := by decide +kernel
theorem dX7_scaleBy_75 : decode cX7_scaleBy 75 = .ok (.isub, 1) := by decide +kernel
theorem dX7_scaleBy_76 : decode cX7_scaleBy 76 = .ok (.putfield 19, 3) := by decide +kernel
theorem dX7_scaleBy_79 : decode cX7_scaleBy 79 = .ok (.return_, 1) := by decide +kernel
theorem dX7_told_0 : decode cX7_told 0 = .ok (.iload_n 1, 1) := by decide +kernel
theorem dX7_told_1 : decode cX7_told 1 = .ok (.aload_n 0, 1) := by decide +kernel
theorem dX7_told_2 : decode cX7_told 2 = .ok (.getfield 15, 3) := by decide +kernel
theorem dX7_told_5 : decode cX7_told 5 = .ok (.ishl, 1) := by decide +kernel
theorem dX7_told_6 : decode cX7_told 6 = .ok (.getstatic 22, 3) := by decide +kernel
theorem dX7_told_9 : decode cX7_told 9 = .ok (.aload_n 0, 1) := by decide +kernel
theorem dX7_told_10 : decode cX7_told 10 = .ok (.getfield 19, 3) := by decide +kernel
theorem dX7_told_13 : decode cX7_told 13 = .ok (.iaload, 1) := by decide +kernel
theorem dX7_told_14 : decode cX7_told 14 = .ok (.invokestatic 25, 3) := by decide +kernel
theorem dX7_told_17 : decode cX7_told 17 = .ok (.bipush 12, 2) := by decide +kernel
theorem dX7_told_19 : decode cX7_told 19 = .ok (.ishr, 1) := by decide +kernel
theorem dX7_told_20 : decode cX7_told 20 = .ok (.iconst 4, 1) := by decide +kernel
theorem dX7_told_21 : decode cX7_told 21 = .ok (.iadd, 1) := by decide +kernel
theorem dX7_told_22 : decode cX7_told 22 = .ok (.ireturn, 1) := by decide +kernel
theorem dX7_makeAgain_0 : decode cX7_makeAgain 0 = .ok (.aload_n 1, 1) := by decide +kernel
theorem dX7_makeAgain_1 : decode cX7_makeAgain 1 = .ok (.iload_n 2, 1) := by decide +kernel
theorem dX7_makeAgain_2 : decode cX7_makeAgain 2 = .ok (.iconst 2, 1) := by decide +kernel
theorem dX7_makeAgain_3 : decode cX7_makeAgain 3 = .ok (.iadd, 1) := by decide +kernel
theorem dX7_makeAgain_4 : decode cX7_makeAgain 4 = .ok (.iaload, 1) := by decide +kernel
theorem dX7_makeAgain_5 : decode cX7_makeAgain 5 = .ok (.istore_n 3, 1) := by decide +kernel
theorem dX7_makeAgain_6 : decode cX7_makeAgain 6 = .ok (.aload_n 0, 1) := by decide +kernel
theorem dX7_makeAgain_7 : decode cX7_makeAgain 7 = .ok (.aload_n 1, 1) := by decide +kernel
theorem dX7_makeAgain_8 : decode cX7_makeAgain 8 = .ok (.iload_n 2, 1) := by decide +kernel
theorem dX7_makeAgain_9 : decode cX7_makeAgain 9 = .ok (.iconst 3, 1) := by decide +kernel
theorem dX7_makeAgain_10 : decode cX7_makeAgain 10 = .ok (.iadd, 1) := by decide +kernel
theorem dX7_makeAgain_11 : decode cX7_makeAgain 11 = .ok (.iaload, 1) := by decide +kernel
theorem dX7_makeAgain_12 : decode cX7_makeAgain 12 = .ok (.invokevirtual 31, 3) := by decide +kernel
theorem dX7_makeAgain_15 : decode cX7_makeAgain 15 = .ok (.aload_n 0, 1) := by decide +kernel
theorem dX7_makeAgain_16 : decode cX7_makeAgain 16 = .ok (.getfield 9, 3) := by decide +kernel
theorem dX7_makeAgain_19 : decode cX7_makeAgain 19 = .ok (.iconst 0, 1) := by decide +kernel
theorem dX7_makeAgain_20 : decode cX7_makeAgain 20 = .ok (.invokestatic 35, 3) := by decide +kernel
theorem dX7_makeAgain_23 : decode cX7_makeAgain 23 = .ok (.iconst 0, 1) := by decide +kernel
theorem dX7_makeAgain_24 : decode cX7_makeAgain 24 = .ok (.istore 4, 2) := by decide +kernel
theorem dX7_makeAgain_26 : decode cX7_makeAgain 26 = .ok (.iload 4, 2) := by decide +kernel
theorem dX7_makeAgain_28 : decode cX7_makeAgain 28 = .ok (.bipush 13, 2) := by decide +kernel
theorem dX7_makeAgain_30 : decode cX7_makeAgain 30 = .ok (.if_icmp .ge 32, 3) := by decide +kernel
theorem dX7_makeAgain_33 : decode cX7_makeAgain 33 = .ok (.aload_n 0, 1) := by decide +kernel
theorem dX7_makeAgain_34 : decode cX7_makeAgain 34 = .ok (.getfield 9, 3) := by decide +kernel
theorem dX7_makeAgain_37 : decode cX7_makeAgain 37 = .ok (.iload_n 3, 1) := by decide +kernel
theorem dX7_makeAgain_38 : decode cX7_makeAgain 38 = .ok (.iconst 3, 1) := by decide +kernel
theorem dX7_makeAgain_39 : decode cX7_makeAgain 39 = .ok (.iload 4, 2) := by decide +kernel
theorem dX7_makeAgain_41 : decode cX7_makeAgain 41 = .ok (.imul, 1) := by decide +kernel
theorem dX7_makeAgain_42 : decode cX7_makeAgain 42 = .ok (.iadd, 1) := by decide +kernel
theorem dX7_makeAgain_43 : decode cX7_makeAgain 43 = .ok (.aload_n 0, 1) := by decide +kernel
theorem dX7_makeAgain_44 : decode cX7_makeAgain 44 = .ok (.aload_n 1, 1) := by decide +kernel
theorem dX7_makeAgain_45 : decode cX7_makeAgain 45 = .ok (.iload_n 2, 1) := by decide +kernel
theorem dX7_makeAgain_46 : decode cX7_makeAgain 46 = .ok (.iconst 4, 1) := by decide +kernel
theorem dX7_makeAgain_47 : decode cX7_makeAgain 47 = .ok (.iadd, 1) := by decide +kernel
theorem dX7_makeAgain_48 : decode cX7_makeAgain 48 = .ok (.iload 4, 2) := by decide +kernel
theorem dX7_makeAgain_50 : decode cX7_makeAgain 50 = .ok (.iadd, 1) := by decide +kernel
theorem dX7_makeAgain_51 : decode cX7_makeAgain 51 = .ok (.iaload, 1) := by decide +kernel
theorem dX7_makeAgain_52 : decode cX7_makeAgain 52 = .ok (.invokevirtual 41, 3) := by decide +kernel
theorem dX7_makeAgain_55 : decode cX7_makeAgain 55 = .ok (.iastore, 1) := by decide +kernel
theorem dX7_makeAgain_56 : decode cX7_makeAgain 56 = .ok (.iinc 4 1, 3) := by decide +kernel
theorem dX7_makeAgain_59 : decode cX7_makeAgain 59 = .ok (.goto (-33), 3) := by decide +kernel
theorem dX7_makeAgain_62 : decode cX7_makeAgain 62 = .ok (.return_, 1) := by decide +kernel
theorem dX7_made_0 : decode cX7_made 0 = .ok (.aload_n 0, 1) := by decide +kernel
theorem dX7_made_1 : decode cX7_made 1 = .ok (.getfield 15, 3) := by decide +kernel
theorem dX7_made_4 : decode cX7_made 4 = .ok (.ifCond .ne 7, 3) := by decide +kernel
theorem dX7_made_7 : decode cX7_made 7 = .ok (.iconst 0, 1) := by decide +kernel
theorem dX7_made_8 : decode cX7_made 8 = .ok (.goto 11, 3) := by decide +kernel
theorem dX7_made_11 : decode cX7_made 11 = .ok (.iconst 1, 1) := by decide +kernel
theorem dX7_made_12 : decode cX7_made 12 = .ok (.aload_n 0, 1) := by decide +kernel
theorem dX7_made_13 : decode cX7_made 13 = .ok (.getfield 15, 3) := by decide +kernel
theorem dX7_made_16 : decode cX7_made 16 = .ok (.iconst 1, 1) := by decide +kernel
theorem dX7_made_17 : decode cX7_made 17 = .ok (.isub, 1) := by decide +kernel
theorem dX7_made_18 : decode cX7_made 18 = .ok (.ishl, 1) := by decide +kernel
theorem dX7_made_19 : decode cX7_made 19 = .ok (.istore_n 2, 1) := by decide +kernel
theorem dX7_made_20 : decode cX7_made 20 = .ok (.getstatic 45, 3) := by decide +kernel
theorem dX7_made_23 : decode cX7_made 23 = .ok (.aload_n 0, 1) := by decide +kernel
theorem dX7_made_24 : decode cX7_made 24 = .ok (.getfield 19, 3) := by decide +kernel
theorem dX7_made_27 : decode cX7_made 27 = .ok (.iaload, 1) := by decide +kernel
theorem dX7_made_28 : decode cX7_made 28 = .ok (.iconst 2, 1) := by decide +kernel
theorem dX7_made_29 : decode cX7_made 29 = .ok (.iload_n 1, 1) := by decide +kernel
theorem dX7_made_30 : decode cX7_made 30 = .ok (.imul, 1) := by decide +kernel
theorem dX7_made_31 : decode cX7_made 31 = .ok (.bipush 7, 2) := by decide +kernel
theorem dX7_made_33 : decode cX7_made 33 = .ok (.isub, 1) := by decide +kernel
theorem dX7_made_34 : decode cX7_made 34 = .ok (.sipush 4096, 3) := by decide +kernel
theorem dX7_made_37 : decode cX7_made 37 = .ok (.imul, 1) := by decide +kernel
theorem dX7_made_38 : decode cX7_made 38 = .ok (.invokestatic 48, 3) := by decide +kernel
theorem dX7_made_41 : decode cX7_made 41 = .ok (.istore_n 3, 1) := by decide +kernel
theorem dX7_made_42 : decode cX7_made 42 = .ok (.iload_n 3, 1) := by decide +kernel
theorem dX7_made_43 : decode cX7_made 43 = .ok (.iload_n 2, 1) := by decide +kernel
theorem dX7_made_44 : decode cX7_made 44 = .ok (.iadd, 1) := by decide +kernel
theorem dX7_made_45 : decode cX7_made 45 = .ok (.invokestatic 51, 3) := by decide +kernel
theorem dX7_made_48 : decode cX7_made 48 = .ok (.aload_n 0, 1) := by decide +kernel
theorem dX7_made_49 : decode cX7_made 49 = .ok (.getfield 15, 3) := by decide +kernel
theorem dX7_made_52 : decode cX7_made 52 = .ok (.ishr, 1) := by decide +kernel
theorem dX7_made_53 : decode cX7_made 53 = .ok (.ireturn, 1) := by decide +kernel
theorem dX8_init_0 : decode cX8_init 0 = .ok (.aload_n 0, 1) := by decide +kernel
theorem dX8_init_1 : decode cX8_init 1 = .ok (.invokespecial 3, 3) := by decide +kernel
theorem dX8_init_4 : decode cX8_init 4 = .ok (.aload_n 0, 1) := by decide +kernel
theorem dX8_init_5 : decode cX8_init 5 = .ok (.bipush 40, 2) := by decide +kernel
theorem dX8_init_7 : decode cX8_init 7 = .ok (.newarray .int, 2) := by decide +kernel
theorem dX8_init_9 : decode cX8_init 9 = .ok (.putfield 9, 3) := by decide +kernel
theorem dX8_init_12 : decode cX8_init 12 = .ok (.return_, 1) := by decide +kernel
theorem dX8_find_0 : decode cX8_find 0 = .ok (.iload_n 2, 1) := by decide +kernel
theorem dX8_find_1 : decode cX8_find 1 = .ok (.invokestatic 15, 3) := by decide +kernel
theorem dX8_find_4 : decode cX8_find 4 = .ok (.istore 4, 2) := by decide +kernel
theorem dX8_find_6 : decode cX8_find 6 = .ok (.aload_n 0, 1) := by decide +kernel
theorem dX8_find_7 : decode cX8_find 7 = .ok (.aload_n 1, 1) := by decide +kernel
theorem dX8_find_8 : decode cX8_find 8 = .ok (.bipush 40, 2) := by decide +kernel
theorem dX8_find_10 : decode cX8_find 10 = .ok (.iload_n 2, 1) := by decide +kernel
theorem dX8_find_11 : decode cX8_find 11 = .ok (.imul, 1) := by decide +kernel
theorem dX8_find_12 : decode cX8_find 12 = .ok (.invokevirtual 21, 3) := by decide +kernel
theorem dX8_find_15 : decode cX8_find 15 = .ok (.istore 5, 2) := by decide +kernel
theorem dX8_find_17 : decode cX8_find 17 = .ok (.iconst 0, 1) := by decide +kernel
theorem dX8_find_18 : decode cX8_find 18 = .ok (.istore 6, 2) := by decide +kernel
theorem dX8_find_20 : decode cX8_find 20 = .ok (.aload_n 0, 1) := by decide +kernel
theorem dX8_find_21 : decode cX8_find 21 = .ok (.bipush 40, 2) := by decide +kernel
theorem dX8_find_23 : decode cX8_find 23 = .ok (.putfield 25, 3) := by decide +kernel
theorem dX8_find_26 : decode cX8_find 26 = .ok (.bipush 40, 2) := by decide +kernel
theorem dX8_find_28 : decode cX8_find 28 = .ok (.istore 7, 2) := by decide +kernel
theorem dX8_find_30 : decode cX8_find 30 = .ok (.iload 7, 2) := by decide +kernel
theorem dX8_find_32 : decode cX8_find 32 = .ok (.bipush 120, 2) := by decide +kernel
theorem dX8_find_34 : decode cX8_find 34 = .ok (.if_icmp .gt 41, 3) := by decide +kernel
theorem dX8_find_37 : decode cX8_find 37 = .ok (.aload_n 0, 1) := by decide +kernel
theorem dX8_find_38 : decode cX8_find 38 = .ok (.aload_n 3, 1) := by decide +kernel
theorem dX8_find_39 : decode cX8_find 39 = .ok (.getfield 29, 3) := by decide +kernel
theorem dX8_find_42 : decode cX8_find 42 = .ok (.iload 4, 2) := by decide +kernel
theorem dX8_find_44 : decode cX8_find 44 = .ok (.iload 7, 2) := by decide +kernel
theorem dX8_find_46 : decode cX8_find 46 = .ok (.isub, 1) := by decide +kernel
theorem dX8_find_47 : decode cX8_find 47 = .ok (.invokevirtual 32, 3) := by decide +kernel
theorem dX8_find_50 : decode cX8_find 50 = .ok (.istore 8, 2) := by decide +kernel
theorem dX8_find_52 : decode cX8_find 52 = .ok (.iload 8, 2) := by decide +kernel
theorem dX8_find_54 : decode cX8_find 54 = .ok (.iload 6, 2) := by decide +kernel
theorem dX8_find_56 : decode cX8_find 56 = .ok (.if_icmp .le 13, 3) := by decide +kernel
theorem dX8_find_59 : decode cX8_find 59 = .ok (.iload 8, 2) := by decide +kernel
theorem dX8_find_61 : decode cX8_find 61 = .ok (.istore 6, 2) := by decide +kernel
theorem dX8_find_63 : decode cX8_find 63 = .ok (.aload_n 0, 1) := by decide +kernel
theorem dX8_find_64 : decode cX8_find 64 = .ok (.iload 7, 2) := by decide +kernel
theorem dX8_find_66 : decode cX8_find 66 = .ok (.putfield 25, 3) := by decide +kernel
theorem dX8_find_69 : decode cX8_find 69 = .ok (.iinc 7 1, 3) := by decide +kernel
theorem dX8_find_72 : decode cX8_find 72 = .ok (.goto (-42), 3) := by decide +kernel
theorem dX8_find_75 : decode cX8_find 75 = .ok (.aload_n 0, 1) := by decide +kernel
theorem dX8_find_76 : decode cX8_find 76 = .ok (.iconst 2, 1) := by decide +kernel
theorem dX8_find_77 : decode cX8_find 77 = .ok (.iload 6, 2) := by decide +kernel
theorem dX8_find_79 : decode cX8_find 79 = .ok (.imul, 1) := by decide +kernel
theorem dX8_find_80 : decode cX8_find 80 = .ok (.bipush 6, 2) := by decide +kernel
theorem dX8_find_82 : decode cX8_find 82 = .ok (.iload 5, 2) := by decide +kernel
theorem dX8_find_84 : decode cX8_find 84 = .ok (.isub, 1) := by decide +kernel
theorem dX8_find_85 : decode cX8_find 85 = .ok (.ishr, 1) := by decide +kernel
theorem dX8_find_86 : decode cX8_find 86 = .ok (.aload_n 3, 1) := by decide +kernel
theorem dX8_find_87 : decode cX8_find 87 = .ok (.getfield 29, 3) := by decide +kernel
theorem dX8_find_90 : decode cX8_find 90 = .ok (.iload 4, 2) := by decide +kernel
theorem dX8_find_92 : decode cX8_find 92 = .ok (.aload_n 0, 1) := by decide +kernel
theorem dX8_find_93 : decode cX8_find 93 = .ok (.getfield 25, 3) := by decide +kernel
theorem dX8_find_96 : decode cX8_find 96 = .ok (.isub, 1) := by decide +kernel
theorem dX8_find_97 : decode cX8_find 97 = .ok (.invokestatic 35, 3) := by decide +kernel
theorem dX8_find_100 : decode cX8_find 100 = .ok (.invokestatic 38, 3) := by decide +kernel
theorem dX8_find_103 : decode cX8_find 103 = .ok (.putfield 42, 3) := by decide +kernel
theorem dX8_find_106 : decode cX8_find 106 = .ok (.return_, 1) := by decide +kernel
theorem dX8_lower_0 : decode cX8_lower 0 = .ok (.aload_n 1, 1) := by decide +kernel
theorem dX8_lower_1 : decode cX8_lower 1 = .ok (.iload_n 2, 1) := by decide +kernel
theorem dX8_lower_2 : decode cX8_lower 2 = .ok (.iconst 1, 1) := by decide +kernel
theorem dX8_lower_3 : decode cX8_lower 3 = .ok (.bipush 40, 2) := by decide +kernel
theorem dX8_lower_5 : decode cX8_lower 5 = .ok (.invokestatic 45, 3) := by decide +kernel
theorem dX8_lower_8 : decode cX8_lower 8 = .ok (.istore_n 3, 1) := by decide +kernel
theorem dX8_lower_9 : decode cX8_lower 9 = .ok (.iload_n 3, 1) := by decide +kernel
theorem dX8_lower_10 : decode cX8_lower 10 = .ok (.ifCond .ne 8, 3) := by decide +kernel
theorem dX8_lower_13 : decode cX8_lower 13 = .ok (.bipush 6, 2) := by decide +kernel
theorem dX8_lower_15 : decode cX8_lower 15 = .ok (.goto 10, 3) := by decide +kernel
theorem dX8_lower_18 : decode cX8_lower 18 = .ok (.iload_n 3, 1) := by decide +kernel
theorem dX8_lower_19 : decode cX8_lower 19 = .ok (.bipush 16, 2) := by decide +kernel
theorem dX8_lower_21 : decode cX8_lower 21 = .ok (.ishl, 1) := by decide +kernel
theorem dX8_lower_22 : decode cX8_lower 22 = .ok (.invokestatic 51, 3) := by decide +kernel
theorem dX8_lower_25 : decode cX8_lower 25 = .ok (.istore 4, 2) := by decide +kernel
theorem dX8_lower_27 : decode cX8_lower 27 = .ok (.iload 4, 2) := by decide +kernel
theorem dX8_lower_29 : decode cX8_lower 29 = .ok (.bipush 6, 2) := by decide +kernel
theorem dX8_lower_31 : decode cX8_lower 31 = .ok (.if_icmp .le 7, 3) := by decide +kernel
theorem dX8_lower_34 : decode cX8_lower 34 = .ok (.iconst 0, 1) := by decide +kernel
theorem dX8_lower_35 : decode cX8_lower 35 = .ok (.goto 8, 3) := by decide +kernel
theorem dX8_lower_38 : decode cX8_lower 38 = .ok (.bipush 6, 2) := by decide +kernel
theorem dX8_lower_40 : decode cX8_lower 40 = .ok (.iload 4, 2) := by decide +kernel
theorem dX8_lower_42 : decode cX8_lower 42 = .ok (.isub, 1) := by decide +kernel
theorem dX8_lower_43 : decode cX8_lower 43 = .ok (.istore 5, 2) := by decide +kernel
theorem dX8_lower_45 : decode cX8_lower 45 = .ok (.iconst 0, 1) := by decide +kernel
theorem dX8_lower_46 : decode cX8_lower 46 = .ok (.istore 6, 2) := by decide +kernel
theorem dX8_lower_48 : decode cX8_lower 48 = .ok (.iload 6, 2) := by decide +kernel
theorem dX8_lower_50 : decode cX8_lower 50 = .ok (.bipush 40, 2) := by decide +kernel
theorem dX8_lower_52 : decode cX8_lower 52 = .ok (.if_icmp .ge 25, 3) := by decide +kernel
theorem dX8_lower_55 : decode cX8_lower 55 = .ok (.aload_n 0, 1) := by decide +kernel
theorem dX8_lower_56 : decode cX8_lower 56 = .ok (.getfield 9, 3) := by decide +kernel
theorem dX8_lower_59 : decode cX8_lower 59 = .ok (.iload 6, 2) := by decide +kernel
theorem dX8_lower_61 : decode cX8_lower 61 = .ok (.aload_n 1, 1) := by decide +kernel
theorem dX8_lower_62 : decode cX8_lower 62 = .ok (.iload_n 2, 1) := by decide +kernel
theorem dX8_lower_63 : decode cX8_lower 63 = .ok (.iload 6, 2) := by decide +kernel
theorem dX8_lower_65 : decode cX8_lower 65 = .ok (.iadd, 1) := by decide +kernel
theorem dX8_lower_66 : decode cX8_lower 66 = .ok (.iaload, 1) := by decide +kernel
theorem dX8_lower_67 : decode cX8_lower 67 = .ok (.iload 5, 2) := by decide +kernel
theorem dX8_lower_69 : decode cX8_lower 69 = .ok (.ishr, 1) := by decide +kernel
theorem dX8_lower_70 : decode cX8_lower 70 = .ok (.iastore, 1) := by decide +kernel
theorem dX8_lower_71 : decode cX8_lower 71 = .ok (.iinc 6 1, 3) := by decide +kernel
theorem dX8_lower_74 : decode cX8_lower 74 = .ok (.goto (-26), 3) := by decide +kernel
theorem dX8_lower_77 : decode cX8_lower 77 = .ok (.iload 5, 2) := by decide +kernel
theorem dX8_lower_79 : decode cX8_lower 79 = .ok (.ireturn, 1) := by decide +kernel
theorem dX8_likeness_0 : decode cX8_likeness 0 = .ok (.iconst 0, 1) := by decide +kernel
theorem dX8_likeness_1 : decode cX8_likeness 1 = .ok (.istore_n 3, 1) := by decide +kernel
theorem dX8_likeness_2 : decode cX8_likeness 2 = .ok (.iconst 0, 1) := by decide +kernel
theorem dX8_likeness_3 : decode cX8_likeness 3 = .ok (.istore 4, 2) := by decide +kernel
theorem dX8_likeness_5 : decode cX8_likeness 5 = .ok (.iload 4, 2) := by decide +kernel
theorem dX8_likeness_7 : decode cX8_likeness 7 = .ok (.bipush 40, 2) := by decide +kernel
theorem dX8_likeness_9 : decode cX8_likeness 9 = .ok (.if_icmp .ge 26, 3) := by decide +kernel
theorem dX8_likeness_12 : decode cX8_likeness 12 = .ok (.iload_n 3, 1) := by decide +kernel
theorem dX8_likeness_13 : decode cX8_likeness 13 = .ok (.aload_n 0, 1) := by decide +kernel
theorem dX8_likeness_14 : decode cX8_likeness 14 = .ok (.getfield 9, 3) := by decide +kernel
theorem dX8_likeness_17 : decode cX8_likeness 17 = .ok (.iload 4, 2) := by decide +kernel
theorem dX8_likeness_19 : decode cX8_likeness 19 = .ok (.iaload, 1) := by decide +kernel
theorem dX8_likeness_20 : decode cX8_likeness 20 = .ok (.aload_n 1, 1) := by decide +kernel
theorem dX8_likeness_21 : decode cX8_likeness 21 = .ok (.iload_n 2, 1) := by decide +kernel
theorem dX8_likeness_22 : decode cX8_likeness 22 = .ok (.iload 4, 2) := by decide +kernel
theorem dX8_likeness_24 : decode cX8_likeness 24 = .ok (.iadd, 1) := by decide +kernel
theorem dX8_likeness_25 : decode cX8_likeness 25 = .ok (.iaload, 1) := by decide +kernel
theorem dX8_likeness_26 : decode cX8_likeness 26 = .ok (.imul, 1) := by decide +kernel
theorem dX8_likeness_27 : decode cX8_likeness 27 = .ok (.iadd, 1) := by decide +kernel
theorem dX8_likeness_28 : decode cX8_likeness 28 = .ok (.istore_n 3, 1) := by decide +kernel
theorem dX8_likeness_29 : decode cX8_likeness 29 = .ok (.iinc 4 1, 3) := by decide +kernel
theorem dX8_likeness_32 : decode cX8_likeness 32 = .ok (.goto (-27), 3) := by decide +kernel
theorem dX8_likeness_35 : decode cX8_likeness 35 = .ok (.iload_n 3, 1) := by decide +kernel
theorem dX8_likeness_36 : decode cX8_likeness 36 = .ok (.ireturn, 1) := by decide +kernel
theorem dX8_power_0 : decode cX8_power 0 = .ok (.iconst 0, 1) := by decide +kernel
theorem dX8_power_1 : decode cX8_power 1 = .ok (.istore_n 2, 1) := by decide +kernel
theorem dX8_power_2 : decode cX8_power 2 = .ok (.iconst 0, 1) := by decide +kernel
theorem dX8_power_3 : decode cX8_power 3 = .ok (.istore_n 3, 1) := by decide +kernel
theorem dX8_power_4 : decode cX8_power 4 = .ok (.iload_n 3, 1) := by decide +kernel
theorem dX8_power_5 : decode cX8_power 5 = .ok (.bipush 40, 2) := by decide +kernel
theorem dX8_power_7 : decode cX8_power 7 = .ok (.if_icmp .ge 26, 3) := by decide +kernel
theorem dX8_power_10 : decode cX8_power 10 = .ok (.aload_n 0, 1) := by decide +kernel
theorem dX8_power_11 : decode cX8_power 11 = .ok (.iload_n 1, 1) := by decide +kernel
theorem dX8_power_12 : decode cX8_power 12 = .ok (.iload_n 3, 1) := by decide +kernel
theorem dX8_power_13 : decode cX8_power 13 = .ok (.iadd, 1) := by decide +kernel
theorem dX8_power_14 : decode cX8_power 14 = .ok (.iaload, 1) := by decide +kernel
theorem dX8_power_15 : decode cX8_power 15 = .ok (.iconst 3, 1) := by decide +kernel
theorem dX8_power_16 : decode cX8_power 16 = .ok (.ishr, 1) := by decide +kernel
theorem dX8_power_17 : decode cX8_power 17 = .ok (.istore 4, 2) := by decide +kernel
theorem dX8_power_19 : decode cX8_power 19 = .ok (.iload_n 2, 1) := by decide +kernel
theorem dX8_power_20 : decode cX8_power 20 = .ok (.iload 4, 2) := by decide +kernel
theorem dX8_power_22 : decode cX8_power 22 = .ok (.iload 4, 2) := by decide +kernel
theorem dX8_power_24 : decode cX8_power 24 = .ok (.imul, 1) := by decide +kernel
theorem dX8_power_25 : decode cX8_power 25 = .ok (.iadd, 1) := by decide +kernel
theorem dX8_power_26 : decode cX8_power 26 = .ok (.istore_n 2, 1) := by decide +kernel
theorem dX8_power_27 : decode cX8_power 27 = .ok (.iinc 3 1, 3) := by decide +kernel
theorem dX8_power_30 : decode cX8_power 30 = .ok (.goto (-26), 3) := by decide +kernel
theorem dX8_power_33 : decode cX8_power 33 = .ok (.iconst 2, 1) := by decide +kernel
theorem dX8_power_34 : decode cX8_power 34 = .ok (.iload_n 2, 1) := by decide +kernel
theorem dX8_power_35 : decode cX8_power 35 = .ok (.imul, 1) := by decide +kernel
theorem dX8_power_36 : decode cX8_power 36 = .ok (.ireturn, 1) := by decide +kernel
theorem dX8_gainOf_0 : decode cX8_gainOf 0 = .ok (.iload_n 0, 1) := by decide +kernel
theorem dX8_gainOf_1 : decode cX8_gainOf 1 = .ok (.ifCond .ne 5, 3) := by decide +kernel
theorem dX8_gainOf_4 : decode cX8_gainOf 4 = .ok (.iconst 0, 1) := by decide +kernel
theorem dX8_gainOf_5 : decode cX8_gainOf 5 = .ok (.ireturn, 1) := by decide +kernel
theorem dX8_gainOf_6 : decode cX8_gainOf 6 = .ok (.iload_n 0, 1) := by decide +kernel
theorem dX8_gainOf_7 : decode cX8_gainOf 7 = .ok (.iload_n 1, 1) := by decide +kernel
theorem dX8_gainOf_8 : decode cX8_gainOf 8 = .ok (.if_icmp .lt 5, 3) := by decide +kernel
theorem dX8_gainOf_11 : decode cX8_gainOf 11 = .ok (.iconst 3, 1) := by decide +kernel
theorem dX8_gainOf_12 : decode cX8_gainOf 12 = .ok (.ireturn, 1) := by decide +kernel
theorem dX8_gainOf_13 : decode cX8_gainOf 13 = .ok (.iload_n 1, 1) := by decide +kernel
theorem dX8_gainOf_14 : decode cX8_gainOf 14 = .ok (.invokestatic 51, 3) := by decide +kernel
theorem dX8_gainOf_17 : decode cX8_gainOf 17 = .ok (.istore_n 2, 1) := by decide +kernel
theorem dX8_gainOf_18 : decode cX8_gainOf 18 = .ok (.iload_n 0, 1) := by decide +kernel
theorem dX8_gainOf_19 : decode cX8_gainOf 19 = .ok (.iload_n 2, 1) := by decide +kernel
theorem dX8_gainOf_20 : decode cX8_gainOf 20 = .ok (.ishl, 1) := by decide +kernel
theorem dX8_gainOf_21 : decode cX8_gainOf 21 = .ok (.bipush 16, 2) := by decide +kernel
theorem dX8_gainOf_23 : decode cX8_gainOf 23 = .ok (.ishr, 1) := by decide +kernel
theorem dX8_gainOf_24 : decode cX8_gainOf 24 = .ok (.istore_n 3, 1) := by decide +kernel
theorem dX8_gainOf_25 : decode cX8_gainOf 25 = .ok (.iload_n 1, 1) := by decide +kernel
theorem dX8_gainOf_26 : decode cX8_gainOf 26 = .ok (.iload_n 2, 1) := by decide +kernel
theorem dX8_gainOf_27 : decode cX8_gainOf 27 = .ok (.ishl, 1) := by decide +kernel
theorem dX8_gainOf_28 : decode cX8_gainOf 28 = .ok (.bipush 16, 2) := by decide +kernel
theorem dX8_gainOf_30 : decode cX8_gainOf 30 = .ok (.ishr, 1) := by decide +kernel
theorem dX8_gainOf_31 : decode cX8_gainOf 31 = .ok (.istore 4, 2) := by decide +kernel
theorem dX8_gainOf_33 : decode cX8_gainOf 33 = .ok (.iconst 0, 1) := by decide +kernel
theorem dX8_gainOf_34 : decode cX8_gainOf 34 = .ok (.istore 5, 2) := by decide +kernel
theorem dX8_gainOf_36 : decode cX8_gainOf 36 = .ok (.iload 5, 2) := by decide +kernel
theorem dX8_gainOf_38 : decode cX8_gainOf 38 = .ok (.getstatic 54, 3) := by decide +kernel
theorem dX8_gainOf_41 : decode cX8_gainOf 41 = .ok (.arraylength, 1) := by decide +kernel
theorem dX8_gainOf_42 : decode cX8_gainOf 42 = .ok (.if_icmp .ge 27, 3) := by decide +kernel
theorem dX8_gainOf_45 : decode cX8_gainOf 45 = .ok (.iload_n 3, 1) := by decide +kernel
theorem dX8_gainOf_46 : decode cX8_gainOf 46 = .ok (.iload 4, 2) := by decide +kernel
theorem dX8_gainOf_48 : decode cX8_gainOf 48 = .ok (.getstatic 54, 3) := by decide +kernel
theorem dX8_gainOf_51 : decode cX8_gainOf 51 = .ok (.iload 5, 2) := by decide +kernel
theorem dX8_gainOf_53 : decode cX8_gainOf 53 = .ok (.iaload, 1) := by decide +kernel
theorem dX8_gainOf_54 : decode cX8_gainOf 54 = .ok (.invokestatic 57, 3) := by decide +kernel
theorem dX8_gainOf_57 : decode cX8_gainOf 57 = .ok (.if_icmp .gt 6, 3) := by decide +kernel
theorem dX8_gainOf_60 : decode cX8_gainOf 60 = .ok (.iload 5, 2) := by decide +kernel
theorem dX8_gainOf_62 : decode cX8_gainOf 62 = .ok (.ireturn, 1) := by decide +kernel
theorem dX8_gainOf_63 : decode cX8_gainOf 63 = .ok (.iinc 5 1, 3) := by decide +kernel
theorem dX8_gainOf_66 : decode cX8_gainOf 66 = .ok (.goto (-30), 3) := by decide +kernel
theorem dX8_gainOf_69 : decode cX8_gainOf 69 = .ok (.iconst 3, 1) := by decide +kernel
theorem dX8_gainOf_70 : decode cX8_gainOf 70 = .ok (.ireturn, 1) := by decide +kernel
theorem dX9_init_0 : decode cX9_init 0 = .ok (.aload_n 0, 1) := by decide +kernel
theorem dX9_init_1 : decode cX9_init 1 = .ok (.invokespecial 3, 3) := by decide +kernel
theorem dX9_init_4 : decode cX9_init 4 = .ok (.aload_n 0, 1) := by decide +kernel
theorem dX9_init_5 : decode cX9_init 5 = .ok (.bipush 50, 2) := by decide +kernel
theorem dX9_init_7 : decode cX9_init 7 = .ok (.newarray .int, 2) := by decide +kernel
theorem dX9_init_9 : decode cX9_init 9 = .ok (.putfield 11, 3) := by decide +kernel
theorem dX9_init_12 : decode cX9_init 12 = .ok (.aload_n 0, 1) := by decide +kernel
theorem dX9_init_13 : decode cX9_init 13 = .ok (.bipush 40, 2) := by decide +kernel
theorem dX9_init_15 : decode cX9_init 15 = .ok (.newarray .int, 2) := by decide +kernel
theorem dX9_init_17 : decode cX9_init 17 = .ok (.putfield 15, 3) := by decide +kernel
theorem dX9_init_20 : decode cX9_init 20 = .ok (.return_, 1) := by decide +kernel
theorem dX9_thin_0 : decode cX9_thin 0 = .ok (.iconst 0, 1) := by decide +kernel
theorem dX9_thin_1 : decode cX9_thin 1 = .ok (.istore 4, 2) := by decide +kernel
theorem dX9_thin_3 : decode cX9_thin 3 = .ok (.iload 4, 2) := by decide +kernel
theorem dX9_thin_5 : decode cX9_thin 5 = .ok (.bipush 40, 2) := by decide +kernel
theorem dX9_thin_7 : decode cX9_thin 7 = .ok (.if_icmp .ge 35, 3) := by decide +kernel
theorem dX9_thin_10 : decode cX9_thin 10 = .ok (.aload_n 0, 1) := by decide +kernel
theorem dX9_thin_11 : decode cX9_thin 11 = .ok (.getfield 11, 3) := by decide +kernel
theorem dX9_thin_14 : decode cX9_thin 14 = .ok (.iconst 5, 1) := by decide +kernel
theorem dX9_thin_15 : decode cX9_thin 15 = .ok (.iload 4, 2) := by decide +kernel
theorem dX9_thin_17 : decode cX9_thin 17 = .ok (.iadd, 1) := by decide +kernel
theorem dX9_thin_18 : decode cX9_thin 18 = .ok (.aload_n 1, 1) := by decide +kernel
theorem dX9_thin_19 : decode cX9_thin 19 = .ok (.bipush 40, 2) := by decide +kernel
theorem dX9_thin_21 : decode cX9_thin 21 = .ok (.iload_n 2, 1) := by decide +kernel
theorem dX9_thin_22 : decode cX9_thin 22 = .ok (.imul, 1) := by decide +kernel
theorem dX9_thin_23 : decode cX9_thin 23 = .ok (.iload 4, 2) := by decide +kernel
theorem dX9_thin_25 : decode cX9_thin 25 = .ok (.iadd, 1) := by decide +kernel
theorem dX9_thin_26 : decode cX9_thin 26 = .ok (.iaload, 1) := by decide +kernel
theorem dX9_thin_27 : decode cX9_thin 27 = .ok (.aload_n 3, 1) := by decide +kernel
theorem dX9_thin_28 : decode cX9_thin 28 = .ok (.iload 4, 2) := by decide +kernel
theorem dX9_thin_30 : decode cX9_thin 30 = .ok (.iaload, 1) := by decide +kernel
theorem dX9_thin_31 : decode cX9_thin 31 = .ok (.isub, 1) := by decide +kernel
theorem dX9_thin_32 : decode cX9_thin 32 = .ok (.invokestatic 18, 3) := by decide +kernel
theorem dX9_thin_35 : decode cX9_thin 35 = .ok (.iastore, 1) := by decide +kernel
theorem dX9_thin_36 : decode cX9_thin 36 = .ok (.iinc 4 1, 3) := by decide +kernel
theorem dX9_thin_39 : decode cX9_thin 39 = .ok (.goto (-36), 3) := by decide +kernel
theorem dX9_thin_42 : decode cX9_thin 42 = .ok (.iconst 0, 1) := by decide +kernel
theorem dX9_thin_43 : decode cX9_thin 43 = .ok (.istore 4, 2) := by decide +kernel
theorem dX9_thin_45 : decode cX9_thin 45 = .ok (.iload 4, 2) := by decide +kernel
theorem dX9_thin_47 : decode cX9_thin 47 = .ok (.bipush 40, 2) := by decide +kernel
theorem dX9_thin_49 : decode cX9_thin 49 = .ok (.if_icmp .ge 22, 3) := by decide +kernel
theorem dX9_thin_52 : decode cX9_thin 52 = .ok (.aload_n 0, 1) := by decide +kernel
theorem dX9_thin_53 : decode cX9_thin 53 = .ok (.getfield 15, 3) := by decide +kernel
theorem dX9_thin_56 : decode cX9_thin 56 = .ok (.iload 4, 2) := by decide +kernel
theorem dX9_thin_58 : decode cX9_thin 58 = .ok (.aload_n 0, 1) := by decide +kernel
theorem dX9_thin_59 : decode cX9_thin 59 = .ok (.iload 4, 2) := by decide +kernel
theorem dX9_thin_61 : decode cX9_thin 61 = .ok (.invokevirtual 24, 3) := by decide +kernel
theorem dX9_thin_64 : decode cX9_thin 64 = .ok (.iastore, 1) := by decide +kernel
theorem dX9_thin_65 : decode cX9_thin 65 = .ok (.iinc 4 1, 3) := by decide +kernel
theorem dX9_thin_68 : decode cX9_thin 68 = .ok (.goto (-23), 3) := by decide +kernel
theorem dX9_thin_71 : decode cX9_thin 71 = .ok (.aload_n 0, 1) := by decide +kernel
theorem dX9_thin_72 : decode cX9_thin 72 = .ok (.aload_n 0, 1) := by decide +kernel
theorem dX9_thin_73 : decode cX9_thin 73 = .ok (.invokevirtual 27, 3) := by decide +kernel
theorem dX9_thin_76 : decode cX9_thin 76 = .ok (.putfield 31, 3) := by decide +kernel
theorem dX9_thin_79 : decode cX9_thin 79 = .ok (.aload_n 0, 1) := by decide +kernel
theorem dX9_thin_80 : decode cX9_thin 80 = .ok (.aload_n 0, 1) := by decide +kernel
theorem dX9_thin_81 : decode cX9_thin 81 = .ok (.getfield 15, 3) := by decide +kernel
theorem dX9_thin_84 : decode cX9_thin 84 = .ok (.aload_n 0, 1) := by decide +kernel
theorem dX9_thin_85 : decode cX9_thin 85 = .ok (.getfield 31, 3) := by decide +kernel
theorem dX9_thin_88 : decode cX9_thin 88 = .ok (.iconst 3, 1) := by decide +kernel
theorem dX9_thin_89 : decode cX9_thin 89 = .ok (.bipush 13, 2) := by decide +kernel
theorem dX9_thin_91 : decode cX9_thin 91 = .ok (.invokestatic 35, 3) := by decide +kernel
theorem dX9_thin_94 : decode cX9_thin 94 = .ok (.invokestatic 39, 3) := by decide +kernel
theorem dX9_thin_97 : decode cX9_thin 97 = .ok (.putfield 42, 3) := by decide +kernel
theorem dX9_thin_100 : decode cX9_thin 100 = .ok (.return_, 1) := by decide +kernel
theorem dX9_filtered_0 : decode cX9_filtered 0 = .ok (.sipush 4096, 3) := by decide +kernel
theorem dX9_filtered_3 : decode cX9_filtered 3 = .ok (.istore_n 2, 1) := by decide +kernel
theorem dX9_filtered_4 : decode cX9_filtered 4 = .ok (.iconst 0, 1) := by decide +kernel
theorem dX9_filtered_5 : decode cX9_filtered 5 = .ok (.istore_n 3, 1) := by decide +kernel
theorem dX9_filtered_6 : decode cX9_filtered 6 = .ok (.iload_n 3, 1) := by decide +kernel
theorem dX9_filtered_7 : decode cX9_filtered 7 = .ok (.getstatic 45, 3) := by decide +kernel
theorem dX9_filtered_10 : decode cX9_filtered 10 = .ok (.arraylength, 1) := by decide +kernel
theorem dX9_filtered_11 : decode cX9_filtered 11 = .ok (.if_icmp .ge 26, 3) := by decide +kernel
theorem dX9_filtered_14 : decode cX9_filtered 14 = .ok (.iload_n 2, 1) := by decide +kernel
theorem dX9_filtered_15 : decode cX9_filtered 15 = .ok (.getstatic 45, 3) := by decide +kernel
theorem dX9_filtered_18 : decode cX9_filtered 18 = .ok (.iload_n 3, 1) := by decide +kernel
theorem dX9_filtered_19 : decode cX9_filtered 19 = .ok (.iaload, 1) := by decide +kernel
theorem dX9_filtered_20 : decode cX9_filtered 20 = .ok (.aload_n 0, 1) := by decide +kernel
theorem dX9_filtered_21 : decode cX9_filtered 21 = .ok (.getfield 11, 3) := by decide +kernel
theorem dX9_filtered_24 : decode cX9_filtered 24 = .ok (.iload_n 1, 1) := by decide +kernel
theorem dX9_filtered_25 : decode cX9_filtered 25 = .ok (.iload_n 3, 1) := by decide +kernel
theorem dX9_filtered_26 : decode cX9_filtered 26 = .ok (.iadd, 1) := by decide +kernel
theorem dX9_filtered_27 : decode cX9_filtered 27 = .ok (.iaload, 1) := by decide +kernel
theorem dX9_filtered_28 : decode cX9_filtered 28 = .ok (.imul, 1) := by decide +kernel
theorem dX9_filtered_29 : decode cX9_filtered 29 = .ok (.iadd, 1) := by decide +kernel
theorem dX9_filtered_30 : decode cX9_filtered 30 = .ok (.istore_n 2, 1) := by decide +kernel
theorem dX9_filtered_31 : decode cX9_filtered 31 = .ok (.iinc 3 1, 3) := by decide +kernel
theorem dX9_filtered_34 : decode cX9_filtered 34 = .ok (.goto (-28), 3) := by decide +kernel
theorem dX9_filtered_37 : decode cX9_filtered 37 = .ok (.iload_n 2, 1) := by decide +kernel
theorem dX9_filtered_38 : decode cX9_filtered 38 = .ok (.bipush 13, 2) := by decide +kernel
theorem dX9_filtered_40 : decode cX9_filtered 40 = .ok (.ishr, 1) := by decide +kernel
theorem dX9_filtered_41 : decode cX9_filtered 41 = .ok (.invokestatic 18, 3) := by decide +kernel
theorem dX9_filtered_44 : decode cX9_filtered 44 = .ok (.ireturn, 1) := by decide +kernel
theorem dX9_loudestGrid_0 : decode cX9_loudestGrid 0 = .ok (.iconst 0, 1) := by decide +kernel
theorem dX9_loudestGrid_1 : decode cX9_loudestGrid 1 = .ok (.istore_n 1, 1) := by decide +kernel
theorem dX9_loudestGrid_2 : decode cX9_loudestGrid 2 = .ok (.iconst 0, 1) := by decide +kernel
theorem dX9_loudestGrid_3 : decode cX9_loudestGrid 3 = .ok (.istore_n 2, 1) := by decide +kernel
theorem dX9_loudestGrid_4 : decode cX9_loudestGrid 4 = .ok (.iconst 0, 1) := by decide +kernel
theorem dX9_loudestGrid_5 : decode cX9_loudestGrid 5 = .ok (.istore_n 3, 1) := by decide +kernel
theorem dX9_loudestGrid_6 : decode cX9_loudestGrid 6 = .ok (.iload_n 3, 1) := by decide +kernel
theorem dX9_loudestGrid_7 : decode cX9_loudestGrid 7 = .ok (.iconst 4, 1) := by decide +kernel
theorem dX9_loudestGrid_8 : decode cX9_loudestGrid 8 = .ok (.if_icmp .ge 64, 3) := by decide +kernel
theorem dX9_loudestGrid_11 : decode cX9_loudestGrid 11 = .ok (.iconst 0, 1) := by decide +kernel
theorem dX9_loudestGrid_12 : decode cX9_loudestGrid 12 = .ok (.istore 4, 2) := by decide +kernel
theorem dX9_loudestGrid_14 : decode cX9_loudestGrid 14 = .ok (.iconst 0, 1) := by decide +kernel
theorem dX9_loudestGrid_15 : decode cX9_loudestGrid 15 = .ok (.istore 5, 2) := by decide +kernel
theorem dX9_loudestGrid_17 : decode cX9_loudestGrid 17 = .ok (.iload 5, 2) := by decide +kernel
theorem dX9_loudestGrid_19 : decode cX9_loudestGrid 19 = .ok (.bipush 13, 2) := by decide +kernel
theorem dX9_loudestGrid_21 : decode cX9_loudestGrid 21 = .ok (.if_icmp .ge 34, 3) := by decide +kernel
theorem dX9_loudestGrid_24 : decode cX9_loudestGrid 24 = .ok (.aload_n 0, 1) := by decide +kernel
theorem dX9_loudestGrid_25 : decode cX9_loudestGrid 25 = .ok (.getfield 15, 3) := by decide +kernel
theorem dX9_loudestGrid_28 : decode cX9_loudestGrid 28 = .ok (.iload_n 3, 1) := by decide +kernel
theorem dX9_loudestGrid_29 : decode cX9_loudestGrid 29 = .ok (.iconst 3, 1) := by decide +kernel
theorem dX9_loudestGrid_30 : decode cX9_loudestGrid 30 = .ok (.iload 5, 2) := by decide +kernel
theorem dX9_loudestGrid_32 : decode cX9_loudestGrid 32 = .ok (.imul, 1) := by decide +kernel
theorem dX9_loudestGrid_33 : decode cX9_loudestGrid 33 = .ok (.iadd, 1) := by decide +kernel
theorem dX9_loudestGrid_34 : decode cX9_loudestGrid 34 = .ok (.iaload, 1) := by decide +kernel
theorem dX9_loudestGrid_35 : decode cX9_loudestGrid 35 = .ok (.iconst 2, 1) := by decide +kernel
theorem dX9_loudestGrid_36 : decode cX9_loudestGrid 36 = .ok (.ishr, 1) := by decide +kernel
theorem dX9_loudestGrid_37 : decode cX9_loudestGrid 37 = .ok (.istore 6, 2) := by decide +kernel
theorem dX9_loudestGrid_39 : decode cX9_loudestGrid 39 = .ok (.iload 4, 2) := by decide +kernel
theorem dX9_loudestGrid_41 : decode cX9_loudestGrid 41 = .ok (.iload 6, 2) := by decide +kernel
theorem dX9_loudestGrid_43 : decode cX9_loudestGrid 43 = .ok (.iload 6, 2) := by decide +kernel
theorem dX9_loudestGrid_45 : decode cX9_loudestGrid 45 = .ok (.imul, 1) := by decide +kernel
theorem dX9_loudestGrid_46 : decode cX9_loudestGrid 46 = .ok (.iadd, 1) := by decide +kernel
theorem dX9_loudestGrid_47 : decode cX9_loudestGrid 47 = .ok (.istore 4, 2) := by decide +kernel
theorem dX9_loudestGrid_49 : decode cX9_loudestGrid 49 = .ok (.iinc 5 1, 3) := by decide +kernel
theorem dX9_loudestGrid_52 : decode cX9_loudestGrid 52 = .ok (.goto (-35), 3) := by decide +kernel
theorem dX9_loudestGrid_55 : decode cX9_loudestGrid 55 = .ok (.iload 4, 2) := by decide +kernel
theorem dX9_loudestGrid_57 : decode cX9_loudestGrid 57 = .ok (.iload_n 2, 1) := by decide +kernel
theorem dX9_loudestGrid_58 : decode cX9_loudestGrid 58 = .ok (.if_icmp .le 8, 3) := by decide +kernel
theorem dX9_loudestGrid_61 : decode cX9_loudestGrid 61 = .ok (.iload 4, 2) := by decide +kernel
theorem dX9_loudestGrid_63 : decode cX9_loudestGrid 63 = .ok (.istore_n 2, 1) := by decide +kernel
theorem dX9_loudestGrid_64 : decode cX9_loudestGrid 64 = .ok (.iload_n 3, 1) := by decide +kernel
theorem dX9_loudestGrid_65 : decode cX9_loudestGrid 65 = .ok (.istore_n 1, 1) := by decide +kernel
theorem dX9_loudestGrid_66 : decode cX9_loudestGrid 66 = .ok (.iinc 3 1, 3) := by decide +kernel
theorem dX9_loudestGrid_69 : decode cX9_loudestGrid 69 = .ok (.goto (-63), 3) := by decide +kernel
theorem dX9_loudestGrid_72 : decode cX9_loudestGrid 72 = .ok (.iload_n 1, 1) := by decide +kernel
theorem dX9_loudestGrid_73 : decode cX9_loudestGrid 73 = .ok (.ireturn, 1) := by decide +kernel
theorem dX9_heightOf_0 : decode cX9_heightOf 0 = .ok (.iconst 0, 1) := by decide +kernel
theorem dX9_heightOf_1 : decode cX9_heightOf 1 = .ok (.istore_n 1, 1) := by decide +kernel
theorem dX9_heightOf_2 : decode cX9_heightOf 2 = .ok (.iconst 0, 1) := by decide +kernel
theorem dX9_heightOf_3 : decode cX9_heightOf 3 = .ok (.istore_n 2, 1) := by decide +kernel
theorem dX9_heightOf_4 : decode cX9_heightOf 4 = .ok (.iload_n 2, 1) := by decide +kernel
theorem dX9_heightOf_5 : decode cX9_heightOf 5 = .ok (.iconst 5, 1) := by decide +kernel
theorem dX9_heightOf_6 : decode cX9_heightOf 6 = .ok (.if_icmp .gt 26, 3) := by decide +kernel
theorem dX9_heightOf_9 : decode cX9_heightOf 9 = .ok (.iload_n 1, 1) := by decide +kernel
theorem dX9_heightOf_10 : decode cX9_heightOf 10 = .ok (.iload_n 0, 1) := by decide +kernel
theorem dX9_heightOf_11 : decode cX9_heightOf 11 = .ok (.bipush 9, 2) := by decide +kernel
theorem dX9_heightOf_13 : decode cX9_heightOf 13 = .ok (.iload_n 2, 1) := by decide +kernel
theorem dX9_heightOf_14 : decode cX9_heightOf 14 = .ok (.iadd, 1) := by decide +kernel
theorem dX9_heightOf_15 : decode cX9_heightOf 15 = .ok (.ishr, 1) := by decide +kernel
theorem dX9_heightOf_16 : decode cX9_heightOf 16 = .ok (.ifCond .le 7, 3) := by decide +kernel
theorem dX9_heightOf_19 : decode cX9_heightOf 19 = .ok (.iconst 1, 1) := by decide +kernel
theorem dX9_heightOf_20 : decode cX9_heightOf 20 = .ok (.goto 4, 3) := by decide +kernel
theorem dX9_heightOf_23 : decode cX9_heightOf 23 = .ok (.iconst 0, 1) := by decide +kernel
theorem dX9_heightOf_24 : decode cX9_heightOf 24 = .ok (.iadd, 1) := by decide +kernel
theorem dX9_heightOf_25 : decode cX9_heightOf 25 = .ok (.istore_n 1, 1) := by decide +kernel
theorem dX9_heightOf_26 : decode cX9_heightOf 26 = .ok (.iinc 2 1, 3) := by decide +kernel
theorem dX9_heightOf_29 : decode cX9_heightOf 29 = .ok (.goto (-25), 3) := by decide +kernel
theorem dX9_heightOf_32 : decode cX9_heightOf 32 = .ok (.iload_n 0, 1) := by decide +kernel
theorem dX9_heightOf_33 : decode cX9_heightOf 33 = .ok (.iload_n 1, 1) := by decide +kernel
theorem dX9_heightOf_34 : decode cX9_heightOf 34 = .ok (.iconst 5, 1) := by decide +kernel
theorem dX9_heightOf_35 : decode cX9_heightOf 35 = .ok (.iadd, 1) := by decide +kernel
theorem dX9_heightOf_36 : decode cX9_heightOf 36 = .ok (.ishr, 1) := by decide +kernel
theorem dX9_heightOf_37 : decode cX9_heightOf 37 = .ok (.bipush 8, 2) := by decide +kernel
theorem dX9_heightOf_39 : decode cX9_heightOf 39 = .ok (.iload_n 1, 1) := by decide +kernel
theorem dX9_heightOf_40 : decode cX9_heightOf 40 = .ok (.imul, 1) := by decide +kernel
theorem dX9_heightOf_41 : decode cX9_heightOf 41 = .ok (.iadd, 1) := by decide +kernel
theorem dX9_heightOf_42 : decode cX9_heightOf 42 = .ok (.ireturn, 1) := by decide +kernel
theorem dX10_init_0 : decode cX10_init 0 = .ok (.aload_n 0, 1) := by decide +kernel
theorem dX10_init_1 : decode cX10_init 1 = .ok (.invokespecial 1, 3) := by decide +kernel
theorem dX10_init_4 : decode cX10_init 4 = .ok (.aload_n 0, 1) := by decide +kernel
theorem dX10_init_5 : decode cX10_init 5 = .ok (.sipush 160, 3) := by decide +kernel
theorem dX10_init_8 : decode cX10_init 8 = .ok (.newarray .int, 2) := by decide +kernel
theorem dX10_init_10 : decode cX10_init 10 = .ok (.putfield 9, 3) := by decide +kernel
theorem dX10_init_13 : decode cX10_init 13 = .ok (.aload_n 0, 1) := by decide +kernel
theorem dX10_init_14 : decode cX10_init 14 = .ok (.bipush 33, 2) := by decide +kernel
theorem dX10_init_16 : decode cX10_init 16 = .ok (.newarray .int, 2) := by decide +kernel
theorem dX10_init_18 : decode cX10_init 18 = .ok (.putfield 13, 3) := by decide +kernel
theorem dX10_init_21 : decode cX10_init 21 = .ok (.aload_n 0, 1) := by decide +kernel
theorem dX10_init_22 : decode cX10_init 22 = .ok (.bipush 76, 2) := by decide +kernel
theorem dX10_init_24 : decode cX10_init 24 = .ok (.newarray .int, 2) := by decide +kernel
theorem dX10_init_26 : decode cX10_init 26 = .ok (.putfield 16, 3) := by decide +kernel
theorem dX10_init_29 : decode cX10_init 29 = .ok (.aload_n 0, 1) := by decide +kernel
theorem dX10_init_30 : decode cX10_init 30 = .ok (.sipush 160, 3) := by decide +kernel
theorem dX10_init_33 : decode cX10_init 33 = .ok (.newarray .int, 2) := by decide +kernel
theorem dX10_init_35 : decode cX10_init 35 = .ok (.putfield 19, 3) := by decide +kernel
theorem dX10_init_38 : decode cX10_init 38 = .ok (.aload_n 0, 1) := by decide +kernel
theorem dX10_init_39 : decode cX10_init 39 = .ok (.new 22, 3) := by decide +kernel
theorem dX10_init_42 : decode cX10_init 42 = .ok (.dup, 1) := by decide +kernel
theorem dX10_init_43 : decode cX10_init 43 = .ok (.invokespecial 24, 3) := by decide +kernel
theorem dX10_init_46 : decode cX10_init 46 = .ok (.putfield 25, 3) := by decide +kernel
theorem dX10_init_49 : decode cX10_init 49 = .ok (.aload_n 0, 1) := by decide +kernel
theorem dX10_init_50 : decode cX10_init 50 = .ok (.new 29, 3) := by decide +kernel
theorem dX10_init_53 : decode cX10_init 53 = .ok (.dup, 1) := by decide +kernel
theorem dX10_init_54 : decode cX10_init 54 = .ok (.invokespecial 31, 3) := by decide +kernel
theorem dX10_init_57 : decode cX10_init 57 = .ok (.putfield 32, 3) := by decide +kernel
theorem dX10_init_60 : decode cX10_init 60 = .ok (.aload_n 0, 1) := by decide +kernel
theorem dX10_init_61 : decode cX10_init 61 = .ok (.iconst 0, 1) := by decide +kernel
theorem dX10_init_62 : decode cX10_init 62 = .ok (.putfield 36, 3) := by decide +kernel
theorem dX10_init_65 : decode cX10_init 65 = .ok (.aload_n 0, 1) := by decide +kernel
theorem dX10_init_66 : decode cX10_init 66 = .ok (.iconst 0, 1) := by decide +kernel
theorem dX10_init_67 : decode cX10_init 67 = .ok (.putfield 40, 3) := by decide +kernel
theorem dX10_init_70 : decode cX10_init 70 = .ok (.return_, 1) := by decide +kernel
theorem dX10_put_0 : decode cX10_put 0 = .ok (.iload_n 1, 1) := by decide +kernel
theorem dX10_put_1 : decode cX10_put 1 = .ok (.sipush (-32768), 3) := by decide +kernel
theorem dX10_put_4 : decode cX10_put 4 = .ok (.if_icmp .lt 10, 3) := by decide +kernel
theorem dX10_put_7 : decode cX10_put 7 = .ok (.iload_n 1, 1) := by decide +kernel
theorem dX10_put_8 : decode cX10_put 8 = .ok (.sipush 32767, 3) := by decide +kernel
theorem dX10_put_11 : decode cX10_put 11 = .ok (.if_icmp .le 13, 3) := by decide +kernel
theorem dX10_put_14 : decode cX10_put 14 = .ok (.new 43, 3) := by decide +kernel
theorem dX10_put_17 : decode cX10_put 17 = .ok (.dup, 1) := by decide +kernel
theorem dX10_put_18 : decode cX10_put 18 = .ok (.ldc 45, 2) := by decide +kernel
theorem dX10_put_20 : decode cX10_put 20 = .ok (.invokespecial 47, 3) := by decide +kernel
theorem dX10_put_23 : decode cX10_put 23 = .ok (.athrow, 1) := by decide +kernel
theorem dX10_put_24 : decode cX10_put 24 = .ok (.aload_n 0, 1) := by decide +kernel
theorem dX10_put_25 : decode cX10_put 25 = .ok (.getfield 36, 3) := by decide +kernel
theorem dX10_put_28 : decode cX10_put 28 = .ok (.sipush 160, 3) := by decide +kernel
theorem dX10_put_31 : decode cX10_put 31 = .ok (.if_icmp .lt 13, 3) := by decide +kernel
theorem dX10_put_34 : decode cX10_put 34 = .ok (.new 50, 3) := by decide +kernel
theorem dX10_put_37 : decode cX10_put 37 = .ok (.dup, 1) := by decide +kernel
theorem dX10_put_38 : decode cX10_put 38 = .ok (.ldc 52, 2) := by decide +kernel
theorem dX10_put_40 : decode cX10_put 40 = .ok (.invokespecial 54, 3) := by decide +kernel
theorem dX10_put_43 : decode cX10_put 43 = .ok (.athrow, 1) := by decide +kernel
theorem dX10_put_44 : decode cX10_put 44 = .ok (.aload_n 0, 1) := by decide +kernel
theorem dX10_put_45 : decode cX10_put 45 = .ok (.getfield 9, 3) := by decide +kernel
theorem dX10_put_48 : decode cX10_put 48 = .ok (.aload_n 0, 1) := by decide +kernel
theorem dX10_put_49 : decode cX10_put 49 = .ok (.getfield 36, 3) := by decide +kernel
theorem dX10_put_52 : decode cX10_put 52 = .ok (.iload_n 1, 1) := by decide +kernel
theorem dX10_put_53 : decode cX10_put 53 = .ok (.iastore, 1) := by decide +kernel
theorem dX10_put_54 : decode cX10_put 54 = .ok (.aload_n 0, 1) := by decide +kernel
theorem dX10_put_55 : decode cX10_put 55 = .ok (.dup, 1) := by decide +kernel
theorem dX10_put_56 : decode cX10_put 56 = .ok (.getfield 36, 3) := by decide +kernel
theorem dX10_put_59 : decode cX10_put 59 = .ok (.iconst 1, 1) := by decide +kernel
theorem dX10_put_60 : decode cX10_put 60 = .ok (.iadd, 1) := by decide +kernel
theorem dX10_put_61 : decode cX10_put 61 = .ok (.putfield 36, 3) := by decide +kernel
theorem dX10_put_64 : decode cX10_put 64 = .ok (.aload_n 0, 1) := by decide +kernel
theorem dX10_put_65 : decode cX10_put 65 = .ok (.getfield 36, 3) := by decide +kernel
theorem dX10_put_68 : decode cX10_put 68 = .ok (.ireturn, 1) := by decide +kernel
theorem dX10_fill_0 : decode cX10_fill 0 = .ok (.iload_n 3, 1) := by decide +kernel
theorem dX10_fill_1 : decode cX10_fill 1 = .ok (.ifCond .lt 10, 3) := by decide +kernel
theorem dX10_fill_4 : decode cX10_fill 4 = .ok (.iload_n 3, 1) := by decide +kernel
theorem dX10_fill_5 : decode cX10_fill 5 = .ok (.sipush 160, 3) := by decide +kernel
theorem dX10_fill_8 : decode cX10_fill 8 = .ok (.if_icmp .le 13, 3) := by decide +kernel
theorem dX10_fill_11 : decode cX10_fill 11 = .ok (.new 43, 3) := by decide +kernel
theorem dX10_fill_14 : decode cX10_fill 14 = .ok (.dup, 1) := by decide +kernel
theorem dX10_fill_15 : decode cX10_fill 15 = .ok (.ldc 55, 2) := by decide +kernel
theorem dX10_fill_17 : decode cX10_fill 17 = .ok (.invokespecial 47, 3) := by decide +kernel
theorem dX10_fill_20 : decode cX10_fill 20 = .ok (.athrow, 1) := by decide +kernel
theorem dX10_fill_21 : decode cX10_fill 21 = .ok (.aload_n 0, 1) := by decide +kernel
theorem dX10_fill_22 : decode cX10_fill 22 = .ok (.getfield 36, 3) := by decide +kernel
theorem dX10_fill_25 : decode cX10_fill 25 = .ok (.iload_n 3, 1) := by decide +kernel
theorem dX10_fill_26 : decode cX10_fill 26 = .ok (.iadd, 1) := by decide +kernel
theorem dX10_fill_27 : decode cX10_fill 27 = .ok (.sipush 160, 3) := by decide +kernel
theorem dX10_fill_30 : decode cX10_fill 30 = .ok (.if_icmp .le 13, 3) := by decide +kernel
theorem dX10_fill_33 : decode cX10_fill 33 = .ok (.new 50, 3) := by decide +kernel
theorem dX10_fill_36 : decode cX10_fill 36 = .ok (.dup, 1) := by decide +kernel
theorem dX10_fill_37 : decode cX10_fill 37 = .ok (.ldc 57, 2) := by decide +kernel
theorem dX10_fill_39 : decode cX10_fill 39 = .ok (.invokespecial 54, 3) := by decide +kernel
theorem dX10_fill_42 : decode cX10_fill 42 = .ok (.athrow, 1) := by decide +kernel
theorem dX10_fill_43 : decode cX10_fill 43 = .ok (.iconst 0, 1) := by decide +kernel
theorem dX10_fill_44 : decode cX10_fill 44 = .ok (.istore 4, 2) := by decide +kernel
theorem dX10_fill_46 : decode cX10_fill 46 = .ok (.iload 4, 2) := by decide +kernel
theorem dX10_fill_48 : decode cX10_fill 48 = .ok (.iload_n 3, 1) := by decide +kernel
theorem dX10_fill_49 : decode cX10_fill 49 = .ok (.if_icmp .ge 28, 3) := by decide +kernel
theorem dX10_fill_52 : decode cX10_fill 52 = .ok (.aload_n 0, 1) := by decide +kernel
theorem dX10_fill_53 : decode cX10_fill 53 = .ok (.getfield 9, 3) := by decide +kernel
theorem dX10_fill_56 : decode cX10_fill 56 = .ok (.aload_n 0, 1) := by decide +kernel
theorem dX10_fill_57 : decode cX10_fill 57 = .ok (.getfield 36, 3) := by decide +kernel
theorem dX10_fill_60 : decode cX10_fill 60 = .ok (.iload 4, 2) := by decide +kernel
theorem dX10_fill_62 : decode cX10_fill 62 = .ok (.iadd, 1) := by decide +kernel
theorem dX10_fill_63 : decode cX10_fill 63 = .ok (.iload_n 1, 1) := by decide +kernel
theorem dX10_fill_64 : decode cX10_fill 64 = .ok (.iload 4, 2) := by decide +kernel
theorem dX10_fill_66 : decode cX10_fill 66 = .ok (.iload_n 2, 1) := by decide +kernel
theorem dX10_fill_67 : decode cX10_fill 67 = .ok (.imul, 1) := by decide +kernel
theorem dX10_fill_68 : decode cX10_fill 68 = .ok (.iadd, 1) := by decide +kernel
theorem dX10_fill_69 : decode cX10_fill 69 = .ok (.i2s, 1) := by decide +kernel
theorem dX10_fill_70 : decode cX10_fill 70 = .ok (.iastore, 1) := by decide +kernel
theorem dX10_fill_71 : decode cX10_fill 71 = .ok (.iinc 4 1, 3) := by decide +kernel
theorem dX10_fill_74 : decode cX10_fill 74 = .ok (.goto (-28), 3) := by decide +kernel
theorem dX10_fill_77 : decode cX10_fill 77 = .ok (.aload_n 0, 1) := by decide +kernel
theorem dX10_fill_78 : decode cX10_fill 78 = .ok (.dup, 1) := by decide +kernel
theorem dX10_fill_79 : decode cX10_fill 79 = .ok (.getfield 36, 3) := by decide +kernel
theorem dX10_fill_82 : decode cX10_fill 82 = .ok (.iload_n 3, 1) := by decide +kernel
theorem dX10_fill_83 : decode cX10_fill 83 = .ok (.iadd, 1) := by decide +kernel
theorem dX10_fill_84 : decode cX10_fill 84 = .ok (.putfield 36, 3) := by decide +kernel
theorem dX10_fill_87 : decode cX10_fill 87 = .ok (.aload_n 0, 1) := by decide +kernel
theorem dX10_fill_88 : decode cX10_fill 88 = .ok (.getfield 36, 3) := by decide +kernel
theorem dX10_fill_91 : decode cX10_fill 91 = .ok (.ireturn, 1) := by decide +kernel
theorem dX10_encode_0 : decode cX10_encode 0 = .ok (.aload_n 0, 1) := by decide +kernel
theorem dX10_encode_1 : decode cX10_encode 1 = .ok (.getfield 36, 3) := by decide +kernel
theorem dX10_encode_4 : decode cX10_encode 4 = .ok (.sipush 160, 3) := by decide +kernel
theorem dX10_encode_7 : decode cX10_encode 7 = .ok (.if_icmp .eq 13, 3) := by decide +kernel
theorem dX10_encode_10 : decode cX10_encode 10 = .ok (.new 50, 3) := by decide +kernel
theorem dX10_encode_13 : decode cX10_encode 13 = .ok (.dup, 1) := by decide +kernel
theorem dX10_encode_14 : decode cX10_encode 14 = .ok (.ldc 59, 2) := by decide +kernel
theorem dX10_encode_16 : decode cX10_encode 16 = .ok (.invokespecial 54, 3) := by decide +kernel
theorem dX10_encode_19 : decode cX10_encode 19 = .ok (.athrow, 1) := by decide +kernel
theorem dX10_encode_20 : decode cX10_encode 20 = .ok (.aload_n 0, 1) := by decide +kernel
theorem dX10_encode_21 : decode cX10_encode 21 = .ok (.getfield 25, 3) := by decide +kernel
theorem dX10_encode_24 : decode cX10_encode 24 = .ok (.aload_n 0, 1) := by decide +kernel
theorem dX10_encode_25 : decode cX10_encode 25 = .ok (.getfield 9, 3) := by decide +kernel
theorem dX10_encode_28 : decode cX10_encode 28 = .ok (.aload_n 0, 1) := by decide +kernel
theorem dX10_encode_29 : decode cX10_encode 29 = .ok (.getfield 16, 3) := by decide +kernel
theorem dX10_encode_32 : decode cX10_encode 32 = .ok (.invokevirtual 61, 3) := by decide +kernel
theorem dX10_encode_35 : decode cX10_encode 35 = .ok (.aload_n 0, 1) := by decide +kernel
theorem dX10_encode_36 : decode cX10_encode 36 = .ok (.iconst 0, 1) := by decide +kernel
theorem dX10_encode_37 : decode cX10_encode 37 = .ok (.putfield 36, 3) := by decide +kernel
theorem dX10_encode_40 : decode cX10_encode 40 = .ok (.aload_n 0, 1) := by decide +kernel
theorem dX10_encode_41 : decode cX10_encode 41 = .ok (.getfield 25, 3) := by decide +kernel
theorem dX10_encode_44 : decode cX10_encode 44 = .ok (.getfield 65, 3) := by decide +kernel
theorem dX10_encode_47 : decode cX10_encode 47 = .ok (.ireturn, 1) := by decide +kernel
theorem dX10_parameter_0 : decode cX10_parameter 0 = .ok (.iload_n 1, 1) := by decide +kernel
theorem dX10_parameter_1 : decode cX10_parameter 1 = .ok (.ifCond .lt 9, 3) := by decide +kernel
theorem dX10_parameter_4 : decode cX10_parameter 4 = .ok (.iload_n 1, 1) := by decide +kernel
theorem dX10_parameter_5 : decode cX10_parameter 5 = .ok (.bipush 76, 2) := by decide +kernel
theorem dX10_parameter_7 : decode cX10_parameter 7 = .ok (.if_icmp .lt 13, 3) := by decide +kernel
theorem dX10_parameter_10 : decode cX10_parameter 10 = .ok (.new 43, 3) := by decide +kernel
theorem dX10_parameter_13 : decode cX10_parameter 13 = .ok (.dup, 1) := by decide +kernel
theorem dX10_parameter_14 : decode cX10_parameter 14 = .ok (.ldc 68, 2) := by decide +kernel
theorem dX10_parameter_16 : decode cX10_parameter 16 = .ok (.invokespecial 47, 3) := by decide +kernel
theorem dX10_parameter_19 : decode cX10_parameter 19 = .ok (.athrow, 1) := by decide +kernel
theorem dX10_parameter_20 : decode cX10_parameter 20 = .ok (.aload_n 0, 1) := by decide +kernel
theorem dX10_parameter_21 : decode cX10_parameter 21 = .ok (.getfield 16, 3) := by decide +kernel
theorem dX10_parameter_24 : decode cX10_parameter 24 = .ok (.iload_n 1, 1) := by decide +kernel
theorem dX10_parameter_25 : decode cX10_parameter 25 = .ok (.iaload, 1) := by decide +kernel
theorem dX10_parameter_26 : decode cX10_parameter 26 = .ok (.ireturn, 1) := by decide +kernel
theorem dX10_feed_0 : decode cX10_feed 0 = .ok (.iload_n 3, 1) := by decide +kernel
theorem dX10_feed_1 : decode cX10_feed 1 = .ok (.ifCond .lt 9, 3) := by decide +kernel
theorem dX10_feed_4 : decode cX10_feed 4 = .ok (.iload_n 3, 1) := by decide +kernel
theorem dX10_feed_5 : decode cX10_feed 5 = .ok (.bipush 8, 2) := by decide +kernel
theorem dX10_feed_7 : decode cX10_feed 7 = .ok (.if_icmp .le 13, 3) := by decide +kernel
theorem dX10_feed_10 : decode cX10_feed 10 = .ok (.new 43, 3) := by decide +kernel
theorem dX10_feed_13 : decode cX10_feed 13 = .ok (.dup, 1) := by decide +kernel
theorem dX10_feed_14 : decode cX10_feed 14 = .ok (.ldc 70, 2) := by decide +kernel
theorem dX10_feed_16 : decode cX10_feed 16 = .ok (.invokespecial 47, 3) := by decide +kernel
theorem dX10_feed_19 : decode cX10_feed 19 = .ok (.athrow, 1) := by decide +kernel
theorem dX10_feed_20 : decode cX10_feed 20 = .ok (.aload_n 0, 1) := by decide +kernel
theorem dX10_feed_21 : decode cX10_feed 21 = .ok (.getfield 40, 3) := by decide +kernel
theorem dX10_feed_24 : decode cX10_feed 24 = .ok (.iload_n 3, 1) := by decide +kernel
theorem dX10_feed_25 : decode cX10_feed 25 = .ok (.iadd, 1) := by decide +kernel
theorem dX10_feed_26 : decode cX10_feed 26 = .ok (.bipush 33, 2) := by decide +kernel
theorem dX10_feed_28 : decode cX10_feed 28 = .ok (.if_icmp .le 13, 3) := by decide +kernel
theorem dX10_feed_31 : decode cX10_feed 31 = .ok (.new 50, 3) := by decide +kernel
theorem dX10_feed_34 : decode cX10_feed 34 = .ok (.dup, 1) := by decide +kernel
theorem dX10_feed_35 : decode cX10_feed 35 = .ok (.ldc 72, 2) := by decide +kernel
theorem dX10_feed_37 : decode cX10_feed 37 = .ok (.invokespecial 54, 3) := by decide +kernel
theorem dX10_feed_40 : decode cX10_feed 40 = .ok (.athrow, 1) := by decide +kernel
theorem dX10_feed_41 : decode cX10_feed 41 = .ok (.iconst 0, 1) := by decide +kernel
theorem dX10_feed_42 : decode cX10_feed 42 = .ok (.istore 4, 2) := by decide +kernel
theorem dX10_feed_44 : decode cX10_feed 44 = .ok (.iload 4, 2) := by decide +kernel
theorem dX10_feed_46 : decode cX10_feed 46 = .ok (.iload_n 3, 1) := by decide +kernel
theorem dX10_feed_47 : decode cX10_feed 47 = .ok (.if_icmp .ge 33, 3) := by decide +kernel
theorem dX10_feed_50 : decode cX10_feed 50 = .ok (.aload_n 0, 1) := by decide +kernel
theorem dX10_feed_51 : decode cX10_feed 51 = .ok (.getfield 13, 3) := by decide +kernel
theorem dX10_feed_54 : decode cX10_feed 54 = .ok (.aload_n 0, 1) := by decide +kernel
theorem dX10_feed_55 : decode cX10_feed 55 = .ok (.getfield 40, 3) := by decide +kernel
theorem dX10_feed_58 : decode cX10_feed 58 = .ok (.iload 4, 2) := by decide +kernel
theorem dX10_feed_60 : decode cX10_feed 60 = .ok (.iadd, 1) := by decide +kernel
theorem dX10_feed_61 : decode cX10_feed 61 = .ok (.lload_n 1, 1) := by decide +kernel
theorem dX10_feed_62 : decode cX10_feed 62 = .ok (.bipush 8, 2) := by decide +kernel
theorem dX10_feed_64 : decode cX10_feed 64 = .ok (.iload 4, 2) := by decide +kernel
theorem dX10_feed_66 : decode cX10_feed 66 = .ok (.imul, 1) := by decide +kernel
theorem dX10_feed_67 : decode cX10_feed 67 = .ok (.lshr, 1) := by decide +kernel
theorem dX10_feed_68 : decode cX10_feed 68 = .ok (.l2i, 1) := by decide +kernel
theorem dX10_feed_69 : decode cX10_feed 69 = .ok (.sipush 255, 3) := by decide +kernel
theorem dX10_feed_72 : decode cX10_feed 72 = .ok (.iand, 1) := by decide +kernel
theorem dX10_feed_73 : decode cX10_feed 73 = .ok (.iastore, 1) := by decide +kernel
theorem dX10_feed_74 : decode cX10_feed 74 = .ok (.iinc 4 1, 3) := by decide +kernel
theorem dX10_feed_77 : decode cX10_feed 77 = .ok (.goto (-33), 3) := by decide +kernel
theorem dX10_feed_80 : decode cX10_feed 80 = .ok (.aload_n 0, 1) := by decide +kernel
theorem dX10_feed_81 : decode cX10_feed 81 = .ok (.dup, 1) := by decide +kernel
theorem dX10_feed_82 : decode cX10_feed 82 = .ok (.getfield 40, 3) := by decide +kernel
theorem dX10_feed_85 : decode cX10_feed 85 = .ok (.iload_n 3, 1) := by decide +kernel
theorem dX10_feed_86 : decode cX10_feed 86 = .ok (.iadd, 1) := by decide +kernel
theorem dX10_feed_87 : decode cX10_feed 87 = .ok (.putfield 40, 3) := by decide +kernel
theorem dX10_feed_90 : decode cX10_feed 90 = .ok (.aload_n 0, 1) := by decide +kernel
theorem dX10_feed_91 : decode cX10_feed 91 = .ok (.getfield 40, 3) := by decide +kernel
theorem dX10_feed_94 : decode cX10_feed 94 = .ok (.ireturn, 1) := by decide +kernel
theorem dX10_take_0 : decode cX10_take 0 = .ok (.aload_n 0, 1) := by decide +kernel
theorem dX10_take_1 : decode cX10_take 1 = .ok (.invokevirtual 74, 3) := by decide +kernel
theorem dX10_take_4 : decode cX10_take 4 = .ok (.aload_n 0, 1) := by decide +kernel
theorem dX10_take_5 : decode cX10_take 5 = .ok (.bipush 33, 2) := by decide +kernel
theorem dX10_take_7 : decode cX10_take 7 = .ok (.putfield 40, 3) := by decide +kernel
theorem dX10_take_10 : decode cX10_take 10 = .ok (.aload_n 0, 1) := by decide +kernel
theorem dX10_take_11 : decode cX10_take 11 = .ok (.getfield 40, 3) := by decide +kernel
theorem dX10_take_14 : decode cX10_take 14 = .ok (.ireturn, 1) := by decide +kernel
theorem dX10_decode_0 : decode cX10_decode 0 = .ok (.aload_n 0, 1) := by decide +kernel
theorem dX10_decode_1 : decode cX10_decode 1 = .ok (.getfield 40, 3) := by decide +kernel
theorem dX10_decode_4 : decode cX10_decode 4 = .ok (.bipush 33, 2) := by decide +kernel
theorem dX10_decode_6 : decode cX10_decode 6 = .ok (.if_icmp .ne 20, 3) := by decide +kernel
theorem dX10_decode_9 : decode cX10_decode 9 = .ok (.aload_n 0, 1) := by decide +kernel
theorem dX10_decode_10 : decode cX10_decode 10 = .ok (.getfield 13, 3) := by decide +kernel
theorem dX10_decode_13 : decode cX10_decode 13 = .ok (.iconst 0, 1) := by decide +kernel
theorem dX10_decode_14 : decode cX10_decode 14 = .ok (.iaload, 1) := by decide +kernel
theorem dX10_decode_15 : decode cX10_decode 15 = .ok (.iconst 4, 1) := by decide +kernel
theorem dX10_decode_16 : decode cX10_decode 16 = .ok (.ishr, 1) := by decide +kernel
theorem dX10_decode_17 : decode cX10_decode 17 = .ok (.bipush 13, 2) := by decide +kernel
theorem dX10_decode_19 : decode cX10_decode 19 = .ok (.if_icmp .ne 7, 3) := by decide +kernel
theorem dX10_decode_22 : decode cX10_decode 22 = .ok (.iconst 1, 1) := by decide +kernel
theorem dX10_decode_23 : decode cX10_decode 23 = .ok (.goto 4, 3) := by decide +kernel
theorem dX10_decode_26 : decode cX10_decode 26 = .ok (.iconst 0, 1) := by decide +kernel
theorem dX10_decode_27 : decode cX10_decode 27 = .ok (.istore_n 1, 1) := by decide +kernel
theorem dX10_decode_28 : decode cX10_decode 28 = .ok (.aload_n 0, 1) := by decide +kernel
theorem dX10_decode_29 : decode cX10_decode 29 = .ok (.iconst 0, 1) := by decide +kernel
theorem dX10_decode_30 : decode cX10_decode 30 = .ok (.putfield 40, 3) := by decide +kernel
theorem dX10_decode_33 : decode cX10_decode 33 = .ok (.iload_n 1, 1) := by decide +kernel
theorem dX10_decode_34 : decode cX10_decode 34 = .ok (.ifCond .ne 5, 3) := by decide +kernel
theorem dX10_decode_37 : decode cX10_decode 37 = .ok (.iconst (-1), 1) := by decide +kernel
theorem dX10_decode_38 : decode cX10_decode 38 = .ok (.ireturn, 1) := by decide +kernel
theorem dX10_decode_39 : decode cX10_decode 39 = .ok (.aload_n 0, 1) := by decide +kernel
theorem dX10_decode_40 : decode cX10_decode 40 = .ok (.invokevirtual 77, 3) := by decide +kernel
theorem dX10_decode_43 : decode cX10_decode 43 = .ok (.aload_n 0, 1) := by decide +kernel
theorem dX10_decode_44 : decode cX10_decode 44 = .ok (.getfield 32, 3) := by decide +kernel
theorem dX10_decode_47 : decode cX10_decode 47 = .ok (.aload_n 0, 1) := by decide +kernel
theorem dX10_decode_48 : decode cX10_decode 48 = .ok (.getfield 16, 3) := by decide +kernel
theorem dX10_decode_51 : decode cX10_decode 51 = .ok (.aload_n 0, 1) := by decide +kernel
theorem dX10_decode_52 : decode cX10_decode 52 = .ok (.getfield 19, 3) := by decide +kernel
theorem dX10_decode_55 : decode cX10_decode 55 = .ok (.invokevirtual 80, 3) := by decide +kernel
theorem dX10_decode_58 : decode cX10_decode 58 = .ok (.aload_n 0, 1) := by decide +kernel
theorem dX10_decode_59 : decode cX10_decode 59 = .ok (.getfield 32, 3) := by decide +kernel
theorem dX10_decode_62 : decode cX10_decode 62 = .ok (.getfield 83, 3) := by decide +kernel
theorem dX10_decode_65 : decode cX10_decode 65 = .ok (.ireturn, 1) := by decide +kernel
theorem dX10_hand_0 : decode cX10_hand 0 = .ok (.iload_n 1, 1) := by decide +kernel
theorem dX10_hand_1 : decode cX10_hand 1 = .ok (.ifCond .lt 20, 3) := by decide +kernel
theorem dX10_hand_4 : decode cX10_hand 4 = .ok (.iload_n 1, 1) := by decide +kernel
theorem dX10_hand_5 : decode cX10_hand 5 = .ok (.aload_n 0, 1) := by decide +kernel
theorem dX10_hand_6 : decode cX10_hand 6 = .ok (.getfield 40, 3) := by decide +kernel
theorem dX10_hand_9 : decode cX10_hand 9 = .ok (.if_icmp .ge 12, 3) := by decide +kernel
theorem dX10_hand_12 : decode cX10_hand 12 = .ok (.aload_n 0, 1) := by decide +kernel
theorem dX10_hand_13 : decode cX10_hand 13 = .ok (.getfield 13, 3) := by decide +kernel
theorem dX10_hand_16 : decode cX10_hand 16 = .ok (.iload_n 1, 1) := by decide +kernel
theorem dX10_hand_17 : decode cX10_hand 17 = .ok (.iaload, 1) := by decide +kernel
theorem dX10_hand_18 : decode cX10_hand 18 = .ok (.goto 4, 3) := by decide +kernel
theorem dX10_hand_21 : decode cX10_hand 21 = .ok (.iconst (-1), 1) := by decide +kernel
theorem dX10_hand_22 : decode cX10_hand 22 = .ok (.ireturn, 1) := by decide +kernel
theorem dX10_sample_0 : decode cX10_sample 0 = .ok (.iload_n 1, 1) := by decide +kernel
theorem dX10_sample_1 : decode cX10_sample 1 = .ok (.ifCond .lt 10, 3) := by decide +kernel
theorem dX10_sample_4 : decode cX10_sample 4 = .ok (.iload_n 1, 1) := by decide +kernel
theorem dX10_sample_5 : decode cX10_sample 5 = .ok (.sipush 160, 3) := by decide +kernel
theorem dX10_sample_8 : decode cX10_sample 8 = .ok (.if_icmp .lt 13, 3) := by decide +kernel
theorem dX10_sample_11 : decode cX10_sample 11 = .ok (.new 43, 3) := by decide +kernel
theorem dX10_sample_14 : decode cX10_sample 14 = .ok (.dup, 1) := by decide +kernel
theorem dX10_sample_15 : decode cX10_sample 15 = .ok (.ldc 84, 2) := by decide +kernel
theorem dX10_sample_17 : decode cX10_sample 17 = .ok (.invokespecial 47, 3) := by decide +kernel
theorem dX10_sample_20 : decode cX10_sample 20 = .ok (.athrow, 1) := by decide +kernel
theorem dX10_sample_21 : decode cX10_sample 21 = .ok (.aload_n 0, 1) := by decide +kernel
theorem dX10_sample_22 : decode cX10_sample 22 = .ok (.getfield 19, 3) := by decide +kernel
theorem dX10_sample_25 : decode cX10_sample 25 = .ok (.iload_n 1, 1) := by decide +kernel
theorem dX10_sample_26 : decode cX10_sample 26 = .ok (.iaload, 1) := by decide +kernel
theorem dX10_sample_27 : decode cX10_sample 27 = .ok (.ireturn, 1) := by decide +kernel
theorem dX10_reset_0 : decode cX10_reset 0 = .ok (.iload_n 1, 1) := by decide +kernel
theorem dX10_reset_1 : decode cX10_reset 1 = .ok (.ifCond .lt 8, 3) := by decide +kernel
theorem dX10_reset_4 : decode cX10_reset 4 = .ok (.iload_n 1, 1) := by decide +kernel
theorem dX10_reset_5 : decode cX10_reset 5 = .ok (.iconst 2, 1) := by decide +kernel
theorem dX10_reset_6 : decode cX10_reset 6 = .ok (.if_icmp .le 13, 3) := by decide +kernel
theorem dX10_reset_9 : decode cX10_reset 9 = .ok (.new 43, 3) := by decide +kernel
theorem dX10_reset_12 : decode cX10_reset 12 = .ok (.dup, 1) := by decide +kernel
theorem dX10_reset_13 : decode cX10_reset 13 = .ok (.ldc 86, 2) := by decide +kernel
theorem dX10_reset_15 : decode cX10_reset 15 = .ok (.invokespecial 47, 3) := by decide +kernel
theorem dX10_reset_18 : decode cX10_reset 18 = .ok (.athrow, 1) := by decide +kernel
theorem dX10_reset_19 : decode cX10_reset 19 = .ok (.iload_n 1, 1) := by decide +kernel
theorem dX10_reset_20 : decode cX10_reset 20 = .ok (.iconst 1, 1) := by decide +kernel
theorem dX10_reset_21 : decode cX10_reset 21 = .ok (.if_icmp .eq 10, 3) := by decide +kernel
theorem dX10_reset_24 : decode cX10_reset 24 = .ok (.aload_n 0, 1) := by decide +kernel
theorem dX10_reset_25 : decode cX10_reset 25 = .ok (.getfield 25, 3) := by decide +kernel
theorem dX10_reset_28 : decode cX10_reset 28 = .ok (.invokevirtual 88, 3) := by decide +kernel
theorem dX10_reset_31 : decode cX10_reset 31 = .ok (.iload_n 1, 1) := by decide +kernel
theorem dX10_reset_32 : decode cX10_reset 32 = .ok (.ifCond .eq 10, 3) := by decide +kernel
theorem dX10_reset_35 : decode cX10_reset 35 = .ok (.aload_n 0, 1) := by decide +kernel
theorem dX10_reset_36 : decode cX10_reset 36 = .ok (.getfield 32, 3) := by decide +kernel
theorem dX10_reset_39 : decode cX10_reset 39 = .ok (.invokevirtual 91, 3) := by decide +kernel
theorem dX10_reset_42 : decode cX10_reset 42 = .ok (.iload_n 1, 1) := by decide +kernel
theorem dX10_reset_43 : decode cX10_reset 43 = .ok (.iconst 2, 1) := by decide +kernel
theorem dX10_reset_44 : decode cX10_reset 44 = .ok (.if_icmp .ne 29, 3) := by decide +kernel
theorem dX10_reset_47 : decode cX10_reset 47 = .ok (.aload_n 0, 1) := by decide +kernel
theorem dX10_reset_48 : decode cX10_reset 48 = .ok (.iconst 0, 1) := by decide +kernel
theorem dX10_reset_49 : decode cX10_reset 49 = .ok (.putfield 36, 3) := by decide +kernel
theorem dX10_reset_52 : decode cX10_reset 52 = .ok (.aload_n 0, 1) := by decide +kernel
theorem dX10_reset_53 : decode cX10_reset 53 = .ok (.iconst 0, 1) := by decide +kernel
theorem dX10_reset_54 : decode cX10_reset 54 = .ok (.putfield 40, 3) := by decide +kernel
theorem dX10_reset_57 : decode cX10_reset 57 = .ok (.aload_n 0, 1) := by decide +kernel
theorem dX10_reset_58 : decode cX10_reset 58 = .ok (.getfield 16, 3) := by decide +kernel
theorem dX10_reset_61 : decode cX10_reset 61 = .ok (.iconst 0, 1) := by decide +kernel
theorem dX10_reset_62 : decode cX10_reset 62 = .ok (.invokestatic 92, 3) := by decide +kernel
theorem dX10_reset_65 : decode cX10_reset 65 = .ok (.aload_n 0, 1) := by decide +kernel
theorem dX10_reset_66 : decode cX10_reset 66 = .ok (.getfield 19, 3) := by decide +kernel
theorem dX10_reset_69 : decode cX10_reset 69 = .ok (.iconst 0, 1) := by decide +kernel
theorem dX10_reset_70 : decode cX10_reset 70 = .ok (.invokestatic 92, 3) := by decide +kernel
theorem dX10_reset_73 : decode cX10_reset 73 = .ok (.return_, 1) := by decide +kernel
theorem dX10_state_0 : decode cX10_state 0 = .ok (.iload_n 2, 1) := by decide +kernel
theorem dX10_state_1 : decode cX10_state 1 = .ok (.ifCond .lt 11, 3) := by decide +kernel
theorem dX10_state_4 : decode cX10_state 4 = .ok (.iload_n 2, 1) := by decide +kernel
theorem dX10_state_5 : decode cX10_state 5 = .ok (.iload_n 1, 1) := by decide +kernel
theorem dX10_state_6 : decode cX10_state 6 = .ok (.invokestatic 98, 3) := by decide +kernel
theorem dX10_state_9 : decode cX10_state 9 = .ok (.if_icmp .lt 13, 3) := by decide +kernel
theorem dX10_state_12 : decode cX10_state 12 = .ok (.new 43, 3) := by decide +kernel
theorem dX10_state_15 : decode cX10_state 15 = .ok (.dup, 1) := by decide +kernel
theorem dX10_state_16 : decode cX10_state 16 = .ok (.ldc 102, 2) := by decide +kernel
theorem dX10_state_18 : decode cX10_state 18 = .ok (.invokespecial 47, 3) := by decide +kernel
theorem dX10_state_21 : decode cX10_state 21 = .ok (.athrow, 1) := by decide +kernel
theorem dX10_state_22 : decode cX10_state 22 = .ok (.iload_n 1, 1) := by decide +kernel
theorem dX10_state_23 : decode cX10_state 23 = .ok (.tableswitch 125 0 6 #[41, 54, 67, 80, 93, 103, 113], 41) := by decide +kernel
theorem dX10_state_64 : decode cX10_state 64 = .ok (.aload_n 0, 1) := by decide +kernel
theorem dX10_state_65 : decode cX10_state 65 = .ok (.getfield 25, 3) := by decide +kernel
theorem dX10_state_68 : decode cX10_state 68 = .ok (.getfield 104, 3) := by decide +kernel
theorem dX10_state_71 : decode cX10_state 71 = .ok (.getfield 108, 3) := by decide +kernel
theorem dX10_state_74 : decode cX10_state 74 = .ok (.iload_n 2, 1) := by decide +kernel
theorem dX10_state_75 : decode cX10_state 75 = .ok (.iaload, 1) := by decide +kernel
theorem dX10_state_76 : decode cX10_state 76 = .ok (.ireturn, 1) := by decide +kernel
theorem dX10_state_77 : decode cX10_state 77 = .ok (.aload_n 0, 1) := by decide +kernel
theorem dX10_state_78 : decode cX10_state 78 = .ok (.getfield 32, 3) := by decide +kernel
theorem dX10_state_81 : decode cX10_state 81 = .ok (.getfield 113, 3) := by decide +kernel
theorem dX10_state_84 : decode cX10_state 84 = .ok (.getfield 108, 3) := by decide +kernel
theorem dX10_state_87 : decode cX10_state 87 = .ok (.iload_n 2, 1) := by decide +kernel
theorem dX10_state_88 : decode cX10_state 88 = .ok (.iaload, 1) := by decide +kernel
theorem dX10_state_89 : decode cX10_state 89 = .ok (.ireturn, 1) := by decide +kernel
theorem dX10_state_90 : decode cX10_state 90 = .ok (.aload_n 0, 1) := by decide +kernel
theorem dX10_state_91 : decode cX10_state 91 = .ok (.getfield 25, 3) := by decide +kernel
theorem dX10_state_94 : decode cX10_state 94 = .ok (.getfield 114, 3) := by decide +kernel
theorem dX10_state_97 : decode cX10_state 97 = .ok (.getfield 118, 3) := by decide +kernel
theorem dX10_state_100 : decode cX10_state 100 = .ok (.iload_n 2, 1) := by decide +kernel
theorem dX10_state_101 : decode cX10_state 101 = .ok (.iaload, 1) := by decide +kernel
theorem dX10_state_102 : decode cX10_state 102 = .ok (.ireturn, 1) := by decide +kernel
theorem dX10_state_103 : decode cX10_state 103 = .ok (.aload_n 0, 1) := by decide +kernel
theorem dX10_state_104 : decode cX10_state 104 = .ok (.getfield 32, 3) := by decide +kernel
theorem dX10_state_107 : decode cX10_state 107 = .ok (.getfield 123, 3) := by decide +kernel
theorem dX10_state_110 : decode cX10_state 110 = .ok (.getfield 118, 3) := by decide +kernel
theorem dX10_state_113 : decode cX10_state 113 = .ok (.iload_n 2, 1) := by decide +kernel
theorem dX10_state_114 : decode cX10_state 114 = .ok (.iaload, 1) := by decide +kernel
theorem dX10_state_115 : decode cX10_state 115 = .ok (.ireturn, 1) := by decide +kernel
theorem dX10_state_116 : decode cX10_state 116 = .ok (.aload_n 0, 1) := by decide +kernel
theorem dX10_state_117 : decode cX10_state 117 = .ok (.getfield 25, 3) := by decide +kernel
theorem dX10_state_120 : decode cX10_state 120 = .ok (.getfield 124, 3) := by decide +kernel
theorem dX10_state_123 : decode cX10_state 123 = .ok (.iload_n 2, 1) := by decide +kernel
theorem dX10_state_124 : decode cX10_state 124 = .ok (.iaload, 1) := by decide +kernel
theorem dX10_state_125 : decode cX10_state 125 = .ok (.ireturn, 1) := by decide +kernel
theorem dX10_state_126 : decode cX10_state 126 = .ok (.aload_n 0, 1) := by decide +kernel
theorem dX10_state_127 : decode cX10_state 127 = .ok (.getfield 32, 3) := by decide +kernel
theorem dX10_state_130 : decode cX10_state 130 = .ok (.getfield 127, 3) := by decide +kernel
theorem dX10_state_133 : decode cX10_state 133 = .ok (.iload_n 2, 1) := by decide +kernel
theorem dX10_state_134 : decode cX10_state 134 = .ok (.iaload, 1) := by decide +kernel
theorem dX10_state_135 : decode cX10_state 135 = .ok (.ireturn, 1) := by decide +kernel
theorem dX10_state_136 : decode cX10_state 136 = .ok (.aload_n 0, 1) := by decide +kernel
theorem dX10_state_137 : decode cX10_state 137 = .ok (.getfield 25, 3) := by decide +kernel
theorem dX10_state_140 : decode cX10_state 140 = .ok (.getfield 130, 3) := by decide +kernel
theorem dX10_state_143 : decode cX10_state 143 = .ok (.iload_n 2, 1) := by decide +kernel
theorem dX10_state_144 : decode cX10_state 144 = .ok (.invokevirtual 134, 3) := by decide +kernel
theorem dX10_state_147 : decode cX10_state 147 = .ok (.ireturn, 1) := by decide +kernel
theorem dX10_state_148 : decode cX10_state 148 = .ok (.iload_n 2, 1) := by decide +kernel
theorem dX10_state_149 : decode cX10_state 149 = .ok (.ifCond .ne 13, 3) := by decide +kernel
theorem dX10_state_152 : decode cX10_state 152 = .ok (.aload_n 0, 1) := by decide +kernel
theorem dX10_state_153 : decode cX10_state 153 = .ok (.getfield 32, 3) := by decide +kernel
theorem dX10_state_156 : decode cX10_state 156 = .ok (.getfield 139, 3) := by decide +kernel
theorem dX10_state_159 : decode cX10_state 159 = .ok (.goto 10, 3) := by decide +kernel
theorem dX10_state_162 : decode cX10_state 162 = .ok (.aload_n 0, 1) := by decide +kernel
theorem dX10_state_163 : decode cX10_state 163 = .ok (.getfield 32, 3) := by decide +kernel
theorem dX10_state_166 : decode cX10_state 166 = .ok (.getfield 142, 3) := by decide +kernel
theorem dX10_state_169 : decode cX10_state 169 = .ok (.ireturn, 1) := by decide +kernel
theorem dX10_about_0 : decode cX10_about 0 = .ok (.iload_n 1, 1) := by decide +kernel
theorem dX10_about_1 : decode cX10_about 1 = .ok (.tableswitch 57 0 3 #[31, 36, 41, 49], 31) := by decide +kernel
theorem dX10_about_32 : decode cX10_about 32 = .ok (.aload_n 0, 1) := by decide +kernel
theorem dX10_about_33 : decode cX10_about 33 = .ok (.getfield 36, 3) := by decide +kernel
theorem dX10_about_36 : decode cX10_about 36 = .ok (.ireturn, 1) := by decide +kernel
theorem dX10_about_37 : decode cX10_about 37 = .ok (.aload_n 0, 1) := by decide +kernel
theorem dX10_about_38 : decode cX10_about 38 = .ok (.getfield 40, 3) := by decide +kernel
theorem dX10_about_41 : decode cX10_about 41 = .ok (.ireturn, 1) := by decide +kernel
theorem dX10_about_42 : decode cX10_about 42 = .ok (.aload_n 0, 1) := by decide +kernel
theorem dX10_about_43 : decode cX10_about 43 = .ok (.getfield 25, 3) := by decide +kernel
theorem dX10_about_46 : decode cX10_about 46 = .ok (.getfield 65, 3) := by decide +kernel
theorem dX10_about_49 : decode cX10_about 49 = .ok (.ireturn, 1) := by decide +kernel
theorem dX10_about_50 : decode cX10_about 50 = .ok (.aload_n 0, 1) := by decide +kernel
theorem dX10_about_51 : decode cX10_about 51 = .ok (.getfield 32, 3) := by decide +kernel
theorem dX10_about_54 : decode cX10_about 54 = .ok (.getfield 83, 3) := by decide +kernel
theorem dX10_about_57 : decode cX10_about 57 = .ok (.ireturn, 1) := by decide +kernel
theorem dX10_about_58 : decode cX10_about 58 = .ok (.new 43, 3) := by decide +kernel
theorem dX10_about_61 : decode cX10_about 61 = .ok (.dup, 1) := by decide +kernel
theorem dX10_about_62 : decode cX10_about 62 = .ok (.ldc 145, 2) := by decide +kernel
theorem dX10_about_64 : decode cX10_about 64 = .ok (.invokespecial 47, 3) := by decide +kernel
theorem dX10_about_67 : decode cX10_about 67 = .ok (.athrow, 1) := by decide +kernel
theorem dX10_stateCells_0 : decode cX10_stateCells 0 = .ok (.iload_n 0, 1) := by decide +kernel
theorem dX10_stateCells_1 : decode cX10_stateCells 1 = .ok (.tableswitch 57 0 7 #[47, 47, 50, 50, 47, 47, 53, 55], 47) := by decide +kernel
theorem dX10_stateCells_48 : decode cX10_stateCells 48 = .ok (.bipush 8, 2) := by decide +kernel
theorem dX10_stateCells_50 : decode cX10_stateCells 50 = .ok (.ireturn, 1) := by decide +kernel
theorem dX10_stateCells_51 : decode cX10_stateCells 51 = .ok (.bipush 120, 2) := by decide +kernel
theorem dX10_stateCells_53 : decode cX10_stateCells 53 = .ok (.ireturn, 1) := by decide +kernel
theorem dX10_stateCells_54 : decode cX10_stateCells 54 = .ok (.iconst 3, 1) := by decide +kernel
theorem dX10_stateCells_55 : decode cX10_stateCells 55 = .ok (.ireturn, 1) := by decide +kernel
theorem dX10_stateCells_56 : decode cX10_stateCells 56 = .ok (.iconst 2, 1) := by decide +kernel
theorem dX10_stateCells_57 : decode cX10_stateCells 57 = .ok (.ireturn, 1) := by decide +kernel
theorem dX10_stateCells_58 : decode cX10_stateCells 58 = .ok (.iconst 0, 1) := by decide +kernel
theorem dX10_stateCells_59 : decode cX10_stateCells 59 = .ok (.ireturn, 1) := by decide +kernel
theorem dX10_bitsOf_0 : decode cX10_bitsOf 0 = .ok (.iload_n 0, 1) := by decide +kernel
theorem dX10_bitsOf_1 : decode cX10_bitsOf 1 = .ok (.bipush 8, 2) := by decide +kernel
theorem dX10_bitsOf_3 : decode cX10_bitsOf 3 = .ok (.if_icmp .ge 9, 3) := by decide +kernel
theorem dX10_bitsOf_6 : decode cX10_bitsOf 6 = .ok (.getstatic 147, 3) := by decide +kernel
theorem dX10_bitsOf_9 : decode cX10_bitsOf 9 = .ok (.iload_n 0, 1) := by decide +kernel
theorem dX10_bitsOf_10 : decode cX10_bitsOf 10 = .ok (.iaload, 1) := by decide +kernel
theorem dX10_bitsOf_11 : decode cX10_bitsOf 11 = .ok (.ireturn, 1) := by decide +kernel
theorem dX10_bitsOf_12 : decode cX10_bitsOf 12 = .ok (.iload_n 0, 1) := by decide +kernel
theorem dX10_bitsOf_13 : decode cX10_bitsOf 13 = .ok (.bipush 8, 2) := by decide +kernel
theorem dX10_bitsOf_15 : decode cX10_bitsOf 15 = .ok (.isub, 1) := by decide +kernel
theorem dX10_bitsOf_16 : decode cX10_bitsOf 16 = .ok (.bipush 17, 2) := by decide +kernel
theorem dX10_bitsOf_18 : decode cX10_bitsOf 18 = .ok (.irem, 1) := by decide +kernel
theorem dX10_bitsOf_19 : decode cX10_bitsOf 19 = .ok (.istore_n 1, 1) := by decide +kernel
theorem dX10_bitsOf_20 : decode cX10_bitsOf 20 = .ok (.iload_n 1, 1) := by decide +kernel
theorem dX10_bitsOf_21 : decode cX10_bitsOf 21 = .ok (.getstatic 150, 3) := by decide +kernel
theorem dX10_bitsOf_24 : decode cX10_bitsOf 24 = .ok (.arraylength, 1) := by decide +kernel
theorem dX10_bitsOf_25 : decode cX10_bitsOf 25 = .ok (.if_icmp .ge 11, 3) := by decide +kernel
theorem dX10_bitsOf_28 : decode cX10_bitsOf 28 = .ok (.getstatic 150, 3) := by decide +kernel
theorem dX10_bitsOf_31 : decode cX10_bitsOf 31 = .ok (.iload_n 1, 1) := by decide +kernel
theorem dX10_bitsOf_32 : decode cX10_bitsOf 32 = .ok (.iaload, 1) := by decide +kernel
theorem dX10_bitsOf_33 : decode cX10_bitsOf 33 = .ok (.goto 4, 3) := by decide +kernel
theorem dX10_bitsOf_36 : decode cX10_bitsOf 36 = .ok (.iconst 3, 1) := by decide +kernel
theorem dX10_bitsOf_37 : decode cX10_bitsOf 37 = .ok (.ireturn, 1) := by decide +kernel
theorem dX10_pack_0 : decode cX10_pack 0 = .ok (.aload_n 0, 1) := by decide +kernel
theorem dX10_pack_1 : decode cX10_pack 1 = .ok (.getfield 13, 3) := by decide +kernel
theorem dX10_pack_4 : decode cX10_pack 4 = .ok (.iconst 0, 1) := by decide +kernel
theorem dX10_pack_5 : decode cX10_pack 5 = .ok (.invokestatic 92, 3) := by decide +kernel
theorem dX10_pack_8 : decode cX10_pack 8 = .ok (.aload_n 0, 1) := by decide +kernel
theorem dX10_pack_9 : decode cX10_pack 9 = .ok (.getfield 13, 3) := by decide +kernel
theorem dX10_pack_12 : decode cX10_pack 12 = .ok (.iconst 0, 1) := by decide +kernel
theorem dX10_pack_13 : decode cX10_pack 13 = .ok (.sipush 208, 3) := by decide +kernel
theorem dX10_pack_16 : decode cX10_pack 16 = .ok (.iastore, 1) := by decide +kernel
theorem dX10_pack_17 : decode cX10_pack 17 = .ok (.iconst 4, 1) := by decide +kernel
theorem dX10_pack_18 : decode cX10_pack 18 = .ok (.istore_n 1, 1) := by decide +kernel
theorem dX10_pack_19 : decode cX10_pack 19 = .ok (.iconst 0, 1) := by decide +kernel
theorem dX10_pack_20 : decode cX10_pack 20 = .ok (.istore_n 2, 1) := by decide +kernel
theorem dX10_pack_21 : decode cX10_pack 21 = .ok (.iload_n 2, 1) := by decide +kernel
theorem dX10_pack_22 : decode cX10_pack 22 = .ok (.bipush 76, 2) := by decide +kernel
theorem dX10_pack_24 : decode cX10_pack 24 = .ok (.if_icmp .ge 62, 3) := by decide +kernel
theorem dX10_pack_27 : decode cX10_pack 27 = .ok (.iload_n 2, 1) := by decide +kernel
theorem dX10_pack_28 : decode cX10_pack 28 = .ok (.invokestatic 153, 3) := by decide +kernel
theorem dX10_pack_31 : decode cX10_pack 31 = .ok (.iconst 1, 1) := by decide +kernel
theorem dX10_pack_32 : decode cX10_pack 32 = .ok (.isub, 1) := by decide +kernel
theorem dX10_pack_33 : decode cX10_pack 33 = .ok (.istore_n 3, 1) := by decide +kernel
theorem dX10_pack_34 : decode cX10_pack 34 = .ok (.iload_n 3, 1) := by decide +kernel
theorem dX10_pack_35 : decode cX10_pack 35 = .ok (.ifCond .lt 45, 3) := by decide +kernel
theorem dX10_pack_38 : decode cX10_pack 38 = .ok (.aload_n 0, 1) := by decide +kernel
theorem dX10_pack_39 : decode cX10_pack 39 = .ok (.getfield 16, 3) := by decide +kernel
theorem dX10_pack_42 : decode cX10_pack 42 = .ok (.iload_n 2, 1) := by decide +kernel
theorem dX10_pack_43 : decode cX10_pack 43 = .ok (.iaload, 1) := by decide +kernel
theorem dX10_pack_44 : decode cX10_pack 44 = .ok (.iload_n 3, 1) := by decide +kernel
theorem dX10_pack_45 : decode cX10_pack 45 = .ok (.ishr, 1) := by decide +kernel
theorem dX10_pack_46 : decode cX10_pack 46 = .ok (.iconst 1, 1) := by decide +kernel
theorem dX10_pack_47 : decode cX10_pack 47 = .ok (.iand, 1) := by decide +kernel
theorem dX10_pack_48 : decode cX10_pack 48 = .ok (.istore 4, 2) := by decide +kernel
theorem dX10_pack_50 : decode cX10_pack 50 = .ok (.aload_n 0, 1) := by decide +kernel
theorem dX10_pack_51 : decode cX10_pack 51 = .ok (.getfield 13, 3) := by decide +kernel
theorem dX10_pack_54 : decode cX10_pack 54 = .ok (.iload_n 1, 1) := by decide +kernel
theorem dX10_pack_55 : decode cX10_pack 55 = .ok (.iconst 3, 1) := by decide +kernel
theorem dX10_pack_56 : decode cX10_pack 56 = .ok (.ishr, 1) := by decide +kernel
theorem dX10_pack_57 : decode cX10_pack 57 = .ok (.dup2, 1) := by decide +kernel
theorem dX10_pack_58 : decode cX10_pack 58 = .ok (.iaload, 1) := by decide +kernel
theorem dX10_pack_59 : decode cX10_pack 59 = .ok (.iload 4, 2) := by decide +kernel
theorem dX10_pack_61 : decode cX10_pack 61 = .ok (.bipush 7, 2) := by decide +kernel
theorem dX10_pack_63 : decode cX10_pack 63 = .ok (.iload_n 1, 1) := by decide +kernel
theorem dX10_pack_64 : decode cX10_pack 64 = .ok (.bipush 7, 2) := by decide +kernel
theorem dX10_pack_66 : decode cX10_pack 66 = .ok (.iand, 1) := by decide +kernel
theorem dX10_pack_67 : decode cX10_pack 67 = .ok (.isub, 1) := by decide +kernel
theorem dX10_pack_68 : decode cX10_pack 68 = .ok (.ishl, 1) := by decide +kernel
theorem dX10_pack_69 : decode cX10_pack 69 = .ok (.ior, 1) := by decide +kernel
theorem dX10_pack_70 : decode cX10_pack 70 = .ok (.iastore, 1) := by decide +kernel
theorem dX10_pack_71 : decode cX10_pack 71 = .ok (.iinc 1 1, 3) := by decide +kernel
theorem dX10_pack_74 : decode cX10_pack 74 = .ok (.iinc 3 (-1), 3) := by decide +kernel
theorem dX10_pack_77 : decode cX10_pack 77 = .ok (.goto (-43), 3) := by decide +kernel
theorem dX10_pack_80 : decode cX10_pack 80 = .ok (.iinc 2 1, 3) := by decide +kernel
theorem dX10_pack_83 : decode cX10_pack 83 = .ok (.goto (-62), 3) := by decide +kernel
theorem dX10_pack_86 : decode cX10_pack 86 = .ok (.return_, 1) := by decide +kernel
theorem dX10_unpack_0 : decode cX10_unpack 0 = .ok (.iconst 4, 1) := by decide +kernel
theorem dX10_unpack_1 : decode cX10_unpack 1 = .ok (.istore_n 1, 1) := by decide +kernel
theorem dX10_unpack_2 : decode cX10_unpack 2 = .ok (.iconst 0, 1) := by decide +kernel
theorem dX10_unpack_3 : decode cX10_unpack 3 = .ok (.istore_n 2, 1) := by decide +kernel
theorem dX10_unpack_4 : decode cX10_unpack 4 = .ok (.iload_n 2, 1) := by decide +kernel
theorem dX10_unpack_5 : decode cX10_unpack 5 = .ok (.bipush 76, 2) := by decide +kernel
theorem dX10_unpack_7 : decode cX10_unpack 7 = .ok (.if_icmp .ge 67, 3) := by decide +kernel
theorem dX10_unpack_10 : decode cX10_unpack 10 = .ok (.iconst 0, 1) := by decide +kernel
theorem dX10_unpack_11 : decode cX10_unpack 11 = .ok (.istore_n 3, 1) := by decide +kernel
theorem dX10_unpack_12 : decode cX10_unpack 12 = .ok (.iload_n 2, 1) := by decide +kernel
theorem dX10_unpack_13 : decode cX10_unpack 13 = .ok (.invokestatic 153, 3) := by decide +kernel
theorem dX10_unpack_16 : decode cX10_unpack 16 = .ok (.iconst 1, 1) := by decide +kernel
theorem dX10_unpack_17 : decode cX10_unpack 17 = .ok (.isub, 1) := by decide +kernel
theorem dX10_unpack_18 : decode cX10_unpack 18 = .ok (.istore 4, 2) := by decide +kernel
theorem dX10_unpack_20 : decode cX10_unpack 20 = .ok (.iload 4, 2) := by decide +kernel
theorem dX10_unpack_22 : decode cX10_unpack 22 = .ok (.ifCond .lt 39, 3) := by decide +kernel
theorem dX10_unpack_25 : decode cX10_unpack 25 = .ok (.aload_n 0, 1) := by decide +kernel
theorem dX10_unpack_26 : decode cX10_unpack 26 = .ok (.getfield 13, 3) := by decide +kernel
theorem dX10_unpack_29 : decode cX10_unpack 29 = .ok (.iload_n 1, 1) := by decide +kernel
theorem dX10_unpack_30 : decode cX10_unpack 30 = .ok (.iconst 3, 1) := by decide +kernel
theorem dX10_unpack_31 : decode cX10_unpack 31 = .ok (.ishr, 1) := by decide +kernel
theorem dX10_unpack_32 : decode cX10_unpack 32 = .ok (.iaload, 1) := by decide +kernel
theorem dX10_unpack_33 : decode cX10_unpack 33 = .ok (.bipush 7, 2) := by decide +kernel
theorem dX10_unpack_35 : decode cX10_unpack 35 = .ok (.iload_n 1, 1) := by decide +kernel
theorem dX10_unpack_36 : decode cX10_unpack 36 = .ok (.bipush 7, 2) := by decide +kernel
theorem dX10_unpack_38 : decode cX10_unpack 38 = .ok (.iand, 1) := by decide +kernel
theorem dX10_unpack_39 : decode cX10_unpack 39 = .ok (.isub, 1) := by decide +kernel
theorem dX10_unpack_40 : decode cX10_unpack 40 = .ok (.ishr, 1) := by decide +kernel
theorem dX10_unpack_41 : decode cX10_unpack 41 = .ok (.iconst 1, 1) := by decide +kernel
theorem dX10_unpack_42 : decode cX10_unpack 42 = .ok (.iand, 1) := by decide +kernel
theorem dX10_unpack_43 : decode cX10_unpack 43 = .ok (.istore 5, 2) := by decide +kernel
theorem dX10_unpack_45 : decode cX10_unpack 45 = .ok (.iconst 2, 1) := by decide +kernel
theorem dX10_unpack_46 : decode cX10_unpack 46 = .ok (.iload_n 3, 1) := by decide +kernel
theorem dX10_unpack_47 : decode cX10_unpack 47 = .ok (.imul, 1) := by decide +kernel
theorem dX10_unpack_48 : decode cX10_unpack 48 = .ok (.iload 5, 2) := by decide +kernel
theorem dX10_unpack_50 : decode cX10_unpack 50 = .ok (.iadd, 1) := by decide +kernel
theorem dX10_unpack_51 : decode cX10_unpack 51 = .ok (.istore_n 3, 1) := by decide +kernel
theorem dX10_unpack_52 : decode cX10_unpack 52 = .ok (.iinc 1 1, 3) := by decide +kernel
theorem dX10_unpack_55 : decode cX10_unpack 55 = .ok (.iinc 4 (-1), 3) := by decide +kernel
theorem dX10_unpack_58 : decode cX10_unpack 58 = .ok (.goto (-38), 3) := by decide +kernel
theorem dX10_unpack_61 : decode cX10_unpack 61 = .ok (.aload_n 0, 1) := by decide +kernel
theorem dX10_unpack_62 : decode cX10_unpack 62 = .ok (.getfield 16, 3) := by decide +kernel
theorem dX10_unpack_65 : decode cX10_unpack 65 = .ok (.iload_n 2, 1) := by decide +kernel
theorem dX10_unpack_66 : decode cX10_unpack 66 = .ok (.iload_n 3, 1) := by decide +kernel
theorem dX10_unpack_67 : decode cX10_unpack 67 = .ok (.iastore, 1) := by decide +kernel
theorem dX10_unpack_68 : decode cX10_unpack 68 = .ok (.iinc 2 1, 3) := by decide +kernel
theorem dX10_unpack_71 : decode cX10_unpack 71 = .ok (.goto (-67), 3) := by decide +kernel
theorem dX10_unpack_74 : decode cX10_unpack 74 = .ok (.return_, 1) := by decide +kernel
