theorem dX0_init_0 : decode cX0_init 0 = .ok (.aload_n 0, 1) := by decide +kernel
theorem dX0_init_1 : decode cX0_init 1 = .ok (.invokespecial 3, 3) := by decide +kernel
theorem dX0_init_4 : decode cX0_init 4 = .ok (.aload_n 0, 1) := by decide +kernel
theorem dX0_init_5 : decode cX0_init 5 = .ok (.new 9, 3) := by decide +kernel
theorem dX0_init_8 : decode cX0_init 8 = .ok (.dup, 1) := by decide +kernel
theorem dX0_init_9 : decode cX0_init 9 = .ok (.invokespecial 11, 3) := by decide +kernel
theorem dX0_init_12 : decode cX0_init 12 = .ok (.putfield 12, 3) := by decide +kernel
theorem dX0_init_15 : decode cX0_init 15 = .ok (.aload_n 0, 1) := by decide +kernel
theorem dX0_init_16 : decode cX0_init 16 = .ok (.new 18, 3) := by decide +kernel
theorem dX0_init_19 : decode cX0_init 19 = .ok (.dup, 1) := by decide +kernel
theorem dX0_init_20 : decode cX0_init 20 = .ok (.invokespecial 20, 3) := by decide +kernel
theorem dX0_init_23 : decode cX0_init 23 = .ok (.putfield 21, 3) := by decide +kernel
theorem dX0_init_26 : decode cX0_init 26 = .ok (.aload_n 0, 1) := by decide +kernel
theorem dX0_init_27 : decode cX0_init 27 = .ok (.new 25, 3) := by decide +kernel
theorem dX0_init_30 : decode cX0_init 30 = .ok (.dup, 1) := by decide +kernel
theorem dX0_init_31 : decode cX0_init 31 = .ok (.invokespecial 27, 3) := by decide +kernel
theorem dX0_init_34 : decode cX0_init 34 = .ok (.putfield 28, 3) := by decide +kernel
theorem dX0_init_37 : decode cX0_init 37 = .ok (.aload_n 0, 1) := by decide +kernel
theorem dX0_init_38 : decode cX0_init 38 = .ok (.iconst 3, 1) := by decide +kernel
theorem dX0_init_39 : decode cX0_init 39 = .ok (.newarray .float, 2) := by decide +kernel
theorem dX0_init_41 : decode cX0_init 41 = .ok (.putfield 32, 3) := by decide +kernel
theorem dX0_init_44 : decode cX0_init 44 = .ok (.aload_n 0, 1) := by decide +kernel
theorem dX0_init_45 : decode cX0_init 45 = .ok (.iconst 3, 1) := by decide +kernel
theorem dX0_init_46 : decode cX0_init 46 = .ok (.newarray .int, 2) := by decide +kernel
theorem dX0_init_48 : decode cX0_init 48 = .ok (.putfield 36, 3) := by decide +kernel
theorem dX0_init_51 : decode cX0_init 51 = .ok (.aload_n 0, 1) := by decide +kernel
theorem dX0_init_52 : decode cX0_init 52 = .ok (.getfield 32, 3) := by decide +kernel
theorem dX0_init_55 : decode cX0_init 55 = .ok (.iconst 0, 1) := by decide +kernel
theorem dX0_init_56 : decode cX0_init 56 = .ok (.ldc 40, 2) := by decide +kernel
theorem dX0_init_58 : decode cX0_init 58 = .ok (.fastore, 1) := by decide +kernel
theorem dX0_init_59 : decode cX0_init 59 = .ok (.aload_n 0, 1) := by decide +kernel
theorem dX0_init_60 : decode cX0_init 60 = .ok (.getfield 32, 3) := by decide +kernel
theorem dX0_init_63 : decode cX0_init 63 = .ok (.iconst 1, 1) := by decide +kernel
theorem dX0_init_64 : decode cX0_init 64 = .ok (.ldc 41, 2) := by decide +kernel
theorem dX0_init_66 : decode cX0_init 66 = .ok (.fastore, 1) := by decide +kernel
theorem dX0_init_67 : decode cX0_init 67 = .ok (.aload_n 0, 1) := by decide +kernel
theorem dX0_init_68 : decode cX0_init 68 = .ok (.getfield 32, 3) := by decide +kernel
theorem dX0_init_71 : decode cX0_init 71 = .ok (.iconst 2, 1) := by decide +kernel
theorem dX0_init_72 : decode cX0_init 72 = .ok (.ldc 42, 2) := by decide +kernel
theorem dX0_init_74 : decode cX0_init 74 = .ok (.fastore, 1) := by decide +kernel
theorem dX0_init_75 : decode cX0_init 75 = .ok (.aload_n 0, 1) := by decide +kernel
theorem dX0_init_76 : decode cX0_init 76 = .ok (.getfield 36, 3) := by decide +kernel
theorem dX0_init_79 : decode cX0_init 79 = .ok (.iconst 0, 1) := by decide +kernel
theorem dX0_init_80 : decode cX0_init 80 = .ok (.bipush 14, 2) := by decide +kernel
theorem dX0_init_82 : decode cX0_init 82 = .ok (.iastore, 1) := by decide +kernel
theorem dX0_init_83 : decode cX0_init 83 = .ok (.aload_n 0, 1) := by decide +kernel
theorem dX0_init_84 : decode cX0_init 84 = .ok (.getfield 36, 3) := by decide +kernel
theorem dX0_init_87 : decode cX0_init 87 = .ok (.iconst 1, 1) := by decide +kernel
theorem dX0_init_88 : decode cX0_init 88 = .ok (.bipush 20, 2) := by decide +kernel
theorem dX0_init_90 : decode cX0_init 90 = .ok (.iastore, 1) := by decide +kernel
theorem dX0_init_91 : decode cX0_init 91 = .ok (.aload_n 0, 1) := by decide +kernel
theorem dX0_init_92 : decode cX0_init 92 = .ok (.getfield 36, 3) := by decide +kernel
theorem dX0_init_95 : decode cX0_init 95 = .ok (.iconst 2, 1) := by decide +kernel
theorem dX0_init_96 : decode cX0_init 96 = .ok (.bipush 120, 2) := by decide +kernel
theorem dX0_init_98 : decode cX0_init 98 = .ok (.iastore, 1) := by decide +kernel
theorem dX0_init_99 : decode cX0_init 99 = .ok (.return_, 1) := by decide +kernel
theorem dX0_reserveCents_0 : decode cX0_reserveCents 0 = .ok (.aload_n 0, 1) := by decide +kernel
theorem dX0_reserveCents_1 : decode cX0_reserveCents 1 = .ok (.getfield 12, 3) := by decide +kernel
theorem dX0_reserveCents_4 : decode cX0_reserveCents 4 = .ok (.invokevirtual 43, 3) := by decide +kernel
theorem dX0_reserveCents_7 : decode cX0_reserveCents 7 = .ok (.i2l, 1) := by decide +kernel
theorem dX0_reserveCents_8 : decode cX0_reserveCents 8 = .ok (.aload_n 0, 1) := by decide +kernel
theorem dX0_reserveCents_9 : decode cX0_reserveCents 9 = .ok (.getfield 36, 3) := by decide +kernel
theorem dX0_reserveCents_12 : decode cX0_reserveCents 12 = .ok (.iconst 1, 1) := by decide +kernel
theorem dX0_reserveCents_13 : decode cX0_reserveCents 13 = .ok (.iaload, 1) := by decide +kernel
theorem dX0_reserveCents_14 : decode cX0_reserveCents 14 = .ok (.i2l, 1) := by decide +kernel
theorem dX0_reserveCents_15 : decode cX0_reserveCents 15 = .ok (.lmul, 1) := by decide +kernel
theorem dX0_reserveCents_16 : decode cX0_reserveCents 16 = .ok (.ldc2_w 47, 3) := by decide +kernel
theorem dX0_reserveCents_19 : decode cX0_reserveCents 19 = .ok (.ldiv, 1) := by decide +kernel
theorem dX0_reserveCents_20 : decode cX0_reserveCents 20 = .ok (.l2i, 1) := by decide +kernel
theorem dX0_reserveCents_21 : decode cX0_reserveCents 21 = .ok (.ireturn, 1) := by decide +kernel
theorem dX0_ageOf_0 : decode cX0_ageOf 0 = .ok (.aload_n 0, 1) := by decide +kernel
theorem dX0_ageOf_1 : decode cX0_ageOf 1 = .ok (.getfield 28, 3) := by decide +kernel
theorem dX0_ageOf_4 : decode cX0_ageOf 4 = .ok (.iload_n 1, 1) := by decide +kernel
theorem dX0_ageOf_5 : decode cX0_ageOf 5 = .ok (.invokevirtual 49, 3) := by decide +kernel
theorem dX0_ageOf_8 : decode cX0_ageOf 8 = .ok (.ifCond .eq 20, 3) := by decide +kernel
theorem dX0_ageOf_11 : decode cX0_ageOf 11 = .ok (.aload_n 0, 1) := by decide +kernel
theorem dX0_ageOf_12 : decode cX0_ageOf 12 = .ok (.getfield 53, 3) := by decide +kernel
theorem dX0_ageOf_15 : decode cX0_ageOf 15 = .ok (.aload_n 0, 1) := by decide +kernel
theorem dX0_ageOf_16 : decode cX0_ageOf 16 = .ok (.getfield 28, 3) := by decide +kernel
theorem dX0_ageOf_19 : decode cX0_ageOf 19 = .ok (.getfield 57, 3) := by decide +kernel
theorem dX0_ageOf_22 : decode cX0_ageOf 22 = .ok (.iload_n 1, 1) := by decide +kernel
theorem dX0_ageOf_23 : decode cX0_ageOf 23 = .ok (.iaload, 1) := by decide +kernel
theorem dX0_ageOf_24 : decode cX0_ageOf 24 = .ok (.isub, 1) := by decide +kernel
theorem dX0_ageOf_25 : decode cX0_ageOf 25 = .ok (.goto 4, 3) := by decide +kernel
theorem dX0_ageOf_28 : decode cX0_ageOf 28 = .ok (.iconst 0, 1) := by decide +kernel
theorem dX0_ageOf_29 : decode cX0_ageOf 29 = .ok (.ireturn, 1) := by decide +kernel
theorem dX0_lateAfter_0 : decode cX0_lateAfter 0 = .ok (.aload_n 0, 1) := by decide +kernel
theorem dX0_lateAfter_1 : decode cX0_lateAfter 1 = .ok (.iload_n 1, 1) := by decide +kernel
theorem dX0_lateAfter_2 : decode cX0_lateAfter 2 = .ok (.invokevirtual 60, 3) := by decide +kernel
theorem dX0_lateAfter_5 : decode cX0_lateAfter 5 = .ok (.iload_n 2, 1) := by decide +kernel
theorem dX0_lateAfter_6 : decode cX0_lateAfter 6 = .ok (.iadd, 1) := by decide +kernel
theorem dX0_lateAfter_7 : decode cX0_lateAfter 7 = .ok (.istore_n 3, 1) := by decide +kernel
theorem dX0_lateAfter_8 : decode cX0_lateAfter 8 = .ok (.iload_n 3, 1) := by decide +kernel
theorem dX0_lateAfter_9 : decode cX0_lateAfter 9 = .ok (.ifCond .le 7, 3) := by decide +kernel
theorem dX0_lateAfter_12 : decode cX0_lateAfter 12 = .ok (.iload_n 3, 1) := by decide +kernel
theorem dX0_lateAfter_13 : decode cX0_lateAfter 13 = .ok (.goto 4, 3) := by decide +kernel
theorem dX0_lateAfter_16 : decode cX0_lateAfter 16 = .ok (.iconst 0, 1) := by decide +kernel
theorem dX0_lateAfter_17 : decode cX0_lateAfter 17 = .ok (.ireturn, 1) := by decide +kernel
theorem dX0_rateAfter_0 : decode cX0_rateAfter 0 = .ok (.aload_n 0, 1) := by decide +kernel
theorem dX0_rateAfter_1 : decode cX0_rateAfter 1 = .ok (.getfield 28, 3) := by decide +kernel
theorem dX0_rateAfter_4 : decode cX0_rateAfter 4 = .ok (.iload_n 1, 1) := by decide +kernel
theorem dX0_rateAfter_5 : decode cX0_rateAfter 5 = .ok (.invokevirtual 49, 3) := by decide +kernel
theorem dX0_rateAfter_8 : decode cX0_rateAfter 8 = .ok (.ifCond .ne 7, 3) := by decide +kernel
theorem dX0_rateAfter_11 : decode cX0_rateAfter 11 = .ok (.invokestatic 64, 3) := by decide +kernel
theorem dX0_rateAfter_14 : decode cX0_rateAfter 14 = .ok (.freturn, 1) := by decide +kernel
theorem dX0_rateAfter_15 : decode cX0_rateAfter 15 = .ok (.aload_n 0, 1) := by decide +kernel
theorem dX0_rateAfter_16 : decode cX0_rateAfter 16 = .ok (.getfield 32, 3) := by decide +kernel
theorem dX0_rateAfter_19 : decode cX0_rateAfter 19 = .ok (.iconst 0, 1) := by decide +kernel
theorem dX0_rateAfter_20 : decode cX0_rateAfter 20 = .ok (.faload, 1) := by decide +kernel
theorem dX0_rateAfter_21 : decode cX0_rateAfter 21 = .ok (.aload_n 0, 1) := by decide +kernel
theorem dX0_rateAfter_22 : decode cX0_rateAfter 22 = .ok (.getfield 32, 3) := by decide +kernel
theorem dX0_rateAfter_25 : decode cX0_rateAfter 25 = .ok (.iconst 1, 1) := by decide +kernel
theorem dX0_rateAfter_26 : decode cX0_rateAfter 26 = .ok (.faload, 1) := by decide +kernel
theorem dX0_rateAfter_27 : decode cX0_rateAfter 27 = .ok (.aload_n 0, 1) := by decide +kernel
theorem dX0_rateAfter_28 : decode cX0_rateAfter 28 = .ok (.iload_n 1, 1) := by decide +kernel
theorem dX0_rateAfter_29 : decode cX0_rateAfter 29 = .ok (.iload_n 2, 1) := by decide +kernel
theorem dX0_rateAfter_30 : decode cX0_rateAfter 30 = .ok (.invokevirtual 68, 3) := by decide +kernel
theorem dX0_rateAfter_33 : decode cX0_rateAfter 33 = .ok (.i2f, 1) := by decide +kernel
theorem dX0_rateAfter_34 : decode cX0_rateAfter 34 = .ok (.fmul, 1) := by decide +kernel
theorem dX0_rateAfter_35 : decode cX0_rateAfter 35 = .ok (.fsub, 1) := by decide +kernel
theorem dX0_rateAfter_36 : decode cX0_rateAfter 36 = .ok (.fstore_n 3, 1) := by decide +kernel
theorem dX0_rateAfter_37 : decode cX0_rateAfter 37 = .ok (.fload_n 3, 1) := by decide +kernel
theorem dX0_rateAfter_38 : decode cX0_rateAfter 38 = .ok (.fconst 0, 1) := by decide +kernel
theorem dX0_rateAfter_39 : decode cX0_rateAfter 39 = .ok (.fcmp .l, 1) := by decide +kernel
theorem dX0_rateAfter_40 : decode cX0_rateAfter 40 = .ok (.ifCond .le 7, 3) := by decide +kernel
theorem dX0_rateAfter_43 : decode cX0_rateAfter 43 = .ok (.fload_n 3, 1) := by decide +kernel
theorem dX0_rateAfter_44 : decode cX0_rateAfter 44 = .ok (.goto 4, 3) := by decide +kernel
theorem dX0_rateAfter_47 : decode cX0_rateAfter 47 = .ok (.fconst 0, 1) := by decide +kernel
theorem dX0_rateAfter_48 : decode cX0_rateAfter 48 = .ok (.fstore 4, 2) := by decide +kernel
theorem dX0_rateAfter_50 : decode cX0_rateAfter 50 = .ok (.fload 4, 2) := by decide +kernel
theorem dX0_rateAfter_52 : decode cX0_rateAfter 52 = .ok (.fconst 1, 1) := by decide +kernel
theorem dX0_rateAfter_53 : decode cX0_rateAfter 53 = .ok (.aload_n 0, 1) := by decide +kernel
theorem dX0_rateAfter_54 : decode cX0_rateAfter 54 = .ok (.getfield 21, 3) := by decide +kernel
theorem dX0_rateAfter_57 : decode cX0_rateAfter 57 = .ok (.aload_n 0, 1) := by decide +kernel
theorem dX0_rateAfter_58 : decode cX0_rateAfter 58 = .ok (.getfield 28, 3) := by decide +kernel
theorem dX0_rateAfter_61 : decode cX0_rateAfter 61 = .ok (.getfield 72, 3) := by decide +kernel
theorem dX0_rateAfter_64 : decode cX0_rateAfter 64 = .ok (.iload_n 1, 1) := by decide +kernel
theorem dX0_rateAfter_65 : decode cX0_rateAfter 65 = .ok (.iaload, 1) := by decide +kernel
theorem dX0_rateAfter_66 : decode cX0_rateAfter 66 = .ok (.invokevirtual 75, 3) := by decide +kernel
theorem dX0_rateAfter_69 : decode cX0_rateAfter 69 = .ok (.fsub, 1) := by decide +kernel
theorem dX0_rateAfter_70 : decode cX0_rateAfter 70 = .ok (.fmul, 1) := by decide +kernel
theorem dX0_rateAfter_71 : decode cX0_rateAfter 71 = .ok (.freturn, 1) := by decide +kernel
theorem dX0_offerAfter_0 : decode cX0_offerAfter 0 = .ok (.aload_n 0, 1) := by decide +kernel
theorem dX0_offerAfter_1 : decode cX0_offerAfter 1 = .ok (.getfield 28, 3) := by decide +kernel
theorem dX0_offerAfter_4 : decode cX0_offerAfter 4 = .ok (.iload_n 1, 1) := by decide +kernel
theorem dX0_offerAfter_5 : decode cX0_offerAfter 5 = .ok (.invokevirtual 49, 3) := by decide +kernel
theorem dX0_offerAfter_8 : decode cX0_offerAfter 8 = .ok (.ifCond .ne 5, 3) := by decide +kernel
theorem dX0_offerAfter_11 : decode cX0_offerAfter 11 = .ok (.iconst 0, 1) := by decide +kernel
theorem dX0_offerAfter_12 : decode cX0_offerAfter 12 = .ok (.ireturn, 1) := by decide +kernel
theorem dX0_offerAfter_13 : decode cX0_offerAfter 13 = .ok (.aload_n 0, 1) := by decide +kernel
theorem dX0_offerAfter_14 : decode cX0_offerAfter 14 = .ok (.getfield 28, 3) := by decide +kernel
theorem dX0_offerAfter_17 : decode cX0_offerAfter 17 = .ok (.getfield 79, 3) := by decide +kernel
theorem dX0_offerAfter_20 : decode cX0_offerAfter 20 = .ok (.iload_n 1, 1) := by decide +kernel
theorem dX0_offerAfter_21 : decode cX0_offerAfter 21 = .ok (.iaload, 1) := by decide +kernel
theorem dX0_offerAfter_22 : decode cX0_offerAfter 22 = .ok (.i2f, 1) := by decide +kernel
theorem dX0_offerAfter_23 : decode cX0_offerAfter 23 = .ok (.aload_n 0, 1) := by decide +kernel
theorem dX0_offerAfter_24 : decode cX0_offerAfter 24 = .ok (.iload_n 1, 1) := by decide +kernel
theorem dX0_offerAfter_25 : decode cX0_offerAfter 25 = .ok (.iload_n 2, 1) := by decide +kernel
theorem dX0_offerAfter_26 : decode cX0_offerAfter 26 = .ok (.invokevirtual 82, 3) := by decide +kernel
theorem dX0_offerAfter_29 : decode cX0_offerAfter 29 = .ok (.fmul, 1) := by decide +kernel
theorem dX0_offerAfter_30 : decode cX0_offerAfter 30 = .ok (.f2i, 1) := by decide +kernel
theorem dX0_offerAfter_31 : decode cX0_offerAfter 31 = .ok (.ireturn, 1) := by decide +kernel
theorem dX0_worthOf_0 : decode cX0_worthOf 0 = .ok (.aload_n 0, 1) := by decide +kernel
theorem dX0_worthOf_1 : decode cX0_worthOf 1 = .ok (.getfield 28, 3) := by decide +kernel
theorem dX0_worthOf_4 : decode cX0_worthOf 4 = .ok (.iload_n 1, 1) := by decide +kernel
theorem dX0_worthOf_5 : decode cX0_worthOf 5 = .ok (.invokevirtual 49, 3) := by decide +kernel
theorem dX0_worthOf_8 : decode cX0_worthOf 8 = .ok (.ifCond .ne 7, 3) := by decide +kernel
theorem dX0_worthOf_11 : decode cX0_worthOf 11 = .ok (.invokestatic 64, 3) := by decide +kernel
theorem dX0_worthOf_14 : decode cX0_worthOf 14 = .ok (.freturn, 1) := by decide +kernel
theorem dX0_worthOf_15 : decode cX0_worthOf 15 = .ok (.aload_n 0, 1) := by decide +kernel
theorem dX0_worthOf_16 : decode cX0_worthOf 16 = .ok (.iload_n 1, 1) := by decide +kernel
theorem dX0_worthOf_17 : decode cX0_worthOf 17 = .ok (.iconst 0, 1) := by decide +kernel
theorem dX0_worthOf_18 : decode cX0_worthOf 18 = .ok (.invokevirtual 86, 3) := by decide +kernel
theorem dX0_worthOf_21 : decode cX0_worthOf 21 = .ok (.istore_n 2, 1) := by decide +kernel
theorem dX0_worthOf_22 : decode cX0_worthOf 22 = .ok (.aload_n 0, 1) := by decide +kernel
theorem dX0_worthOf_23 : decode cX0_worthOf 23 = .ok (.getfield 21, 3) := by decide +kernel
theorem dX0_worthOf_26 : decode cX0_worthOf 26 = .ok (.aload_n 0, 1) := by decide +kernel
theorem dX0_worthOf_27 : decode cX0_worthOf 27 = .ok (.getfield 28, 3) := by decide +kernel
theorem dX0_worthOf_30 : decode cX0_worthOf 30 = .ok (.getfield 72, 3) := by decide +kernel
theorem dX0_worthOf_33 : decode cX0_worthOf 33 = .ok (.iload_n 1, 1) := by decide +kernel
theorem dX0_worthOf_34 : decode cX0_worthOf 34 = .ok (.iaload, 1) := by decide +kernel
theorem dX0_worthOf_35 : decode cX0_worthOf 35 = .ok (.invokevirtual 75, 3) := by decide +kernel
theorem dX0_worthOf_38 : decode cX0_worthOf 38 = .ok (.fstore_n 3, 1) := by decide +kernel
theorem dX0_worthOf_39 : decode cX0_worthOf 39 = .ok (.aload_n 0, 1) := by decide +kernel
theorem dX0_worthOf_40 : decode cX0_worthOf 40 = .ok (.getfield 28, 3) := by decide +kernel
theorem dX0_worthOf_43 : decode cX0_worthOf 43 = .ok (.getfield 79, 3) := by decide +kernel
theorem dX0_worthOf_46 : decode cX0_worthOf 46 = .ok (.iload_n 1, 1) := by decide +kernel
theorem dX0_worthOf_47 : decode cX0_worthOf 47 = .ok (.iaload, 1) := by decide +kernel
theorem dX0_worthOf_48 : decode cX0_worthOf 48 = .ok (.iload_n 2, 1) := by decide +kernel
theorem dX0_worthOf_49 : decode cX0_worthOf 49 = .ok (.isub, 1) := by decide +kernel
theorem dX0_worthOf_50 : decode cX0_worthOf 50 = .ok (.i2f, 1) := by decide +kernel
theorem dX0_worthOf_51 : decode cX0_worthOf 51 = .ok (.fconst 1, 1) := by decide +kernel
theorem dX0_worthOf_52 : decode cX0_worthOf 52 = .ok (.fload_n 3, 1) := by decide +kernel
theorem dX0_worthOf_53 : decode cX0_worthOf 53 = .ok (.fsub, 1) := by decide +kernel
theorem dX0_worthOf_54 : decode cX0_worthOf 54 = .ok (.fmul, 1) := by decide +kernel
theorem dX0_worthOf_55 : decode cX0_worthOf 55 = .ok (.fstore 4, 2) := by decide +kernel
theorem dX0_worthOf_57 : decode cX0_worthOf 57 = .ok (.fload 4, 2) := by decide +kernel
theorem dX0_worthOf_59 : decode cX0_worthOf 59 = .ok (.iload_n 2, 1) := by decide +kernel
theorem dX0_worthOf_60 : decode cX0_worthOf 60 = .ok (.i2f, 1) := by decide +kernel
theorem dX0_worthOf_61 : decode cX0_worthOf 61 = .ok (.fload_n 3, 1) := by decide +kernel
theorem dX0_worthOf_62 : decode cX0_worthOf 62 = .ok (.fmul, 1) := by decide +kernel
theorem dX0_worthOf_63 : decode cX0_worthOf 63 = .ok (.fsub, 1) := by decide +kernel
theorem dX0_worthOf_64 : decode cX0_worthOf 64 = .ok (.freturn, 1) := by decide +kernel
theorem dX0_canPayAhead_0 : decode cX0_canPayAhead 0 = .ok (.aload_n 0, 1) := by decide +kernel
theorem dX0_canPayAhead_1 : decode cX0_canPayAhead 1 = .ok (.getfield 28, 3) := by decide +kernel
theorem dX0_canPayAhead_4 : decode cX0_canPayAhead 4 = .ok (.iload_n 1, 1) := by decide +kernel
theorem dX0_canPayAhead_5 : decode cX0_canPayAhead 5 = .ok (.invokevirtual 49, 3) := by decide +kernel
theorem dX0_canPayAhead_8 : decode cX0_canPayAhead 8 = .ok (.ifCond .ne 5, 3) := by decide +kernel
theorem dX0_canPayAhead_11 : decode cX0_canPayAhead 11 = .ok (.iconst 0, 1) := by decide +kernel
theorem dX0_canPayAhead_12 : decode cX0_canPayAhead 12 = .ok (.ireturn, 1) := by decide +kernel
theorem dX0_canPayAhead_13 : decode cX0_canPayAhead 13 = .ok (.aload_n 0, 1) := by decide +kernel
theorem dX0_canPayAhead_14 : decode cX0_canPayAhead 14 = .ok (.getfield 28, 3) := by decide +kernel
theorem dX0_canPayAhead_17 : decode cX0_canPayAhead 17 = .ok (.getfield 89, 3) := by decide +kernel
theorem dX0_canPayAhead_20 : decode cX0_canPayAhead 20 = .ok (.iload_n 1, 1) := by decide +kernel
theorem dX0_canPayAhead_21 : decode cX0_canPayAhead 21 = .ok (.iaload, 1) := by decide +kernel
theorem dX0_canPayAhead_22 : decode cX0_canPayAhead 22 = .ok (.ifCond .ne 15, 3) := by decide +kernel
theorem dX0_canPayAhead_25 : decode cX0_canPayAhead 25 = .ok (.aload_n 0, 1) := by decide +kernel
theorem dX0_canPayAhead_26 : decode cX0_canPayAhead 26 = .ok (.getfield 28, 3) := by decide +kernel
theorem dX0_canPayAhead_29 : decode cX0_canPayAhead 29 = .ok (.getfield 92, 3) := by decide +kernel
theorem dX0_canPayAhead_32 : decode cX0_canPayAhead 32 = .ok (.iload_n 1, 1) := by decide +kernel
theorem dX0_canPayAhead_33 : decode cX0_canPayAhead 33 = .ok (.iaload, 1) := by decide +kernel
theorem dX0_canPayAhead_34 : decode cX0_canPayAhead 34 = .ok (.ifCond .eq 5, 3) := by decide +kernel
theorem dX0_canPayAhead_37 : decode cX0_canPayAhead 37 = .ok (.iconst 0, 1) := by decide +kernel
theorem dX0_canPayAhead_38 : decode cX0_canPayAhead 38 = .ok (.ireturn, 1) := by decide +kernel
theorem dX0_canPayAhead_39 : decode cX0_canPayAhead 39 = .ok (.aload_n 0, 1) := by decide +kernel
theorem dX0_canPayAhead_40 : decode cX0_canPayAhead 40 = .ok (.iload_n 1, 1) := by decide +kernel
theorem dX0_canPayAhead_41 : decode cX0_canPayAhead 41 = .ok (.invokevirtual 60, 3) := by decide +kernel
theorem dX0_canPayAhead_44 : decode cX0_canPayAhead 44 = .ok (.aload_n 0, 1) := by decide +kernel
theorem dX0_canPayAhead_45 : decode cX0_canPayAhead 45 = .ok (.getfield 36, 3) := by decide +kernel
theorem dX0_canPayAhead_48 : decode cX0_canPayAhead 48 = .ok (.iconst 0, 1) := by decide +kernel
theorem dX0_canPayAhead_49 : decode cX0_canPayAhead 49 = .ok (.iaload, 1) := by decide +kernel
theorem dX0_canPayAhead_50 : decode cX0_canPayAhead 50 = .ok (.if_icmp .ge 5, 3) := by decide +kernel
theorem dX0_canPayAhead_53 : decode cX0_canPayAhead 53 = .ok (.iconst 0, 1) := by decide +kernel
theorem dX0_canPayAhead_54 : decode cX0_canPayAhead 54 = .ok (.ireturn, 1) := by decide +kernel
theorem dX0_canPayAhead_55 : decode cX0_canPayAhead 55 = .ok (.aload_n 0, 1) := by decide +kernel
theorem dX0_canPayAhead_56 : decode cX0_canPayAhead 56 = .ok (.iload_n 1, 1) := by decide +kernel
theorem dX0_canPayAhead_57 : decode cX0_canPayAhead 57 = .ok (.iconst 0, 1) := by decide +kernel
theorem dX0_canPayAhead_58 : decode cX0_canPayAhead 58 = .ok (.invokevirtual 86, 3) := by decide +kernel
theorem dX0_canPayAhead_61 : decode cX0_canPayAhead 61 = .ok (.istore_n 2, 1) := by decide +kernel
theorem dX0_canPayAhead_62 : decode cX0_canPayAhead 62 = .ok (.iload_n 2, 1) := by decide +kernel
theorem dX0_canPayAhead_63 : decode cX0_canPayAhead 63 = .ok (.ifCond .le 20, 3) := by decide +kernel
theorem dX0_canPayAhead_66 : decode cX0_canPayAhead 66 = .ok (.aload_n 0, 1) := by decide +kernel
theorem dX0_canPayAhead_67 : decode cX0_canPayAhead 67 = .ok (.getfield 95, 3) := by decide +kernel
theorem dX0_canPayAhead_70 : decode cX0_canPayAhead 70 = .ok (.iload_n 2, 1) := by decide +kernel
theorem dX0_canPayAhead_71 : decode cX0_canPayAhead 71 = .ok (.isub, 1) := by decide +kernel
theorem dX0_canPayAhead_72 : decode cX0_canPayAhead 72 = .ok (.aload_n 0, 1) := by decide +kernel
theorem dX0_canPayAhead_73 : decode cX0_canPayAhead 73 = .ok (.invokevirtual 98, 3) := by decide +kernel
theorem dX0_canPayAhead_76 : decode cX0_canPayAhead 76 = .ok (.if_icmp .lt 7, 3) := by decide +kernel
theorem dX0_canPayAhead_79 : decode cX0_canPayAhead 79 = .ok (.iconst 1, 1) := by decide +kernel
theorem dX0_canPayAhead_80 : decode cX0_canPayAhead 80 = .ok (.goto 4, 3) := by decide +kernel
theorem dX0_canPayAhead_83 : decode cX0_canPayAhead 83 = .ok (.iconst 0, 1) := by decide +kernel
theorem dX0_canPayAhead_84 : decode cX0_canPayAhead 84 = .ok (.ireturn, 1) := by decide +kernel
theorem dX0_canGiveUp_0 : decode cX0_canGiveUp 0 = .ok (.aload_n 0, 1) := by decide +kernel
theorem dX0_canGiveUp_1 : decode cX0_canGiveUp 1 = .ok (.getfield 28, 3) := by decide +kernel
theorem dX0_canGiveUp_4 : decode cX0_canGiveUp 4 = .ok (.iload_n 1, 1) := by decide +kernel
theorem dX0_canGiveUp_5 : decode cX0_canGiveUp 5 = .ok (.invokevirtual 101, 3) := by decide +kernel
theorem dX0_canGiveUp_8 : decode cX0_canGiveUp 8 = .ok (.ifCond .eq 21, 3) := by decide +kernel
theorem dX0_canGiveUp_11 : decode cX0_canGiveUp 11 = .ok (.aload_n 0, 1) := by decide +kernel
theorem dX0_canGiveUp_12 : decode cX0_canGiveUp 12 = .ok (.iload_n 1, 1) := by decide +kernel
theorem dX0_canGiveUp_13 : decode cX0_canGiveUp 13 = .ok (.invokevirtual 60, 3) := by decide +kernel
theorem dX0_canGiveUp_16 : decode cX0_canGiveUp 16 = .ok (.aload_n 0, 1) := by decide +kernel
theorem dX0_canGiveUp_17 : decode cX0_canGiveUp 17 = .ok (.getfield 36, 3) := by decide +kernel
theorem dX0_canGiveUp_20 : decode cX0_canGiveUp 20 = .ok (.iconst 2, 1) := by decide +kernel
theorem dX0_canGiveUp_21 : decode cX0_canGiveUp 21 = .ok (.iaload, 1) := by decide +kernel
theorem dX0_canGiveUp_22 : decode cX0_canGiveUp 22 = .ok (.if_icmp .lt 7, 3) := by decide +kernel
theorem dX0_canGiveUp_25 : decode cX0_canGiveUp 25 = .ok (.iconst 1, 1) := by decide +kernel
theorem dX0_canGiveUp_26 : decode cX0_canGiveUp 26 = .ok (.goto 4, 3) := by decide +kernel
theorem dX0_canGiveUp_29 : decode cX0_canGiveUp 29 = .ok (.iconst 0, 1) := by decide +kernel
theorem dX0_canGiveUp_30 : decode cX0_canGiveUp 30 = .ok (.ireturn, 1) := by decide +kernel
theorem dX0_advance_0 : decode cX0_advance 0 = .ok (.aload_n 0, 1) := by decide +kernel
theorem dX0_advance_1 : decode cX0_advance 1 = .ok (.getfield 28, 3) := by decide +kernel
theorem dX0_advance_4 : decode cX0_advance 4 = .ok (.iload_n 1, 1) := by decide +kernel
theorem dX0_advance_5 : decode cX0_advance 5 = .ok (.invokevirtual 49, 3) := by decide +kernel
theorem dX0_advance_8 : decode cX0_advance 8 = .ok (.ifCond .ne 5, 3) := by decide +kernel
theorem dX0_advance_11 : decode cX0_advance 11 = .ok (.iconst (-1), 1) := by decide +kernel
theorem dX0_advance_12 : decode cX0_advance 12 = .ok (.ireturn, 1) := by decide +kernel
theorem dX0_advance_13 : decode cX0_advance 13 = .ok (.aload_n 0, 1) := by decide +kernel
theorem dX0_advance_14 : decode cX0_advance 14 = .ok (.iload_n 1, 1) := by decide +kernel
theorem dX0_advance_15 : decode cX0_advance 15 = .ok (.iconst 0, 1) := by decide +kernel
theorem dX0_advance_16 : decode cX0_advance 16 = .ok (.invokevirtual 86, 3) := by decide +kernel
theorem dX0_advance_19 : decode cX0_advance 19 = .ok (.istore_n 2, 1) := by decide +kernel
theorem dX0_advance_20 : decode cX0_advance 20 = .ok (.aload_n 0, 1) := by decide +kernel
theorem dX0_advance_21 : decode cX0_advance 21 = .ok (.getfield 28, 3) := by decide +kernel
theorem dX0_advance_24 : decode cX0_advance 24 = .ok (.getfield 89, 3) := by decide +kernel
theorem dX0_advance_27 : decode cX0_advance 27 = .ok (.iload_n 1, 1) := by decide +kernel
theorem dX0_advance_28 : decode cX0_advance 28 = .ok (.iconst 1, 1) := by decide +kernel
theorem dX0_advance_29 : decode cX0_advance 29 = .ok (.iastore, 1) := by decide +kernel
theorem dX0_advance_30 : decode cX0_advance 30 = .ok (.aload_n 0, 1) := by decide +kernel
theorem dX0_advance_31 : decode cX0_advance 31 = .ok (.getfield 28, 3) := by decide +kernel
theorem dX0_advance_34 : decode cX0_advance 34 = .ok (.getfield 104, 3) := by decide +kernel
theorem dX0_advance_37 : decode cX0_advance 37 = .ok (.iload_n 1, 1) := by decide +kernel
theorem dX0_advance_38 : decode cX0_advance 38 = .ok (.iload_n 2, 1) := by decide +kernel
theorem dX0_advance_39 : decode cX0_advance 39 = .ok (.iastore, 1) := by decide +kernel
theorem dX0_advance_40 : decode cX0_advance 40 = .ok (.aload_n 0, 1) := by decide +kernel
theorem dX0_advance_41 : decode cX0_advance 41 = .ok (.getfield 12, 3) := by decide +kernel
theorem dX0_advance_44 : decode cX0_advance 44 = .ok (.aload_n 0, 1) := by decide +kernel
theorem dX0_advance_45 : decode cX0_advance 45 = .ok (.getfield 28, 3) := by decide +kernel
theorem dX0_advance_48 : decode cX0_advance 48 = .ok (.getfield 107, 3) := by decide +kernel
theorem dX0_advance_51 : decode cX0_advance 51 = .ok (.iload_n 1, 1) := by decide +kernel
theorem dX0_advance_52 : decode cX0_advance 52 = .ok (.iaload, 1) := by decide +kernel
theorem dX0_advance_53 : decode cX0_advance 53 = .ok (.iload_n 2, 1) := by decide +kernel
theorem dX0_advance_54 : decode cX0_advance 54 = .ok (.invokevirtual 110, 3) := by decide +kernel
theorem dX0_advance_57 : decode cX0_advance 57 = .ok (.aload_n 0, 1) := by decide +kernel
theorem dX0_advance_58 : decode cX0_advance 58 = .ok (.dup, 1) := by decide +kernel
theorem dX0_advance_59 : decode cX0_advance 59 = .ok (.getfield 95, 3) := by decide +kernel
theorem dX0_advance_62 : decode cX0_advance 62 = .ok (.iload_n 2, 1) := by decide +kernel
theorem dX0_advance_63 : decode cX0_advance 63 = .ok (.isub, 1) := by decide +kernel
theorem dX0_advance_64 : decode cX0_advance 64 = .ok (.putfield 95, 3) := by decide +kernel
theorem dX0_advance_67 : decode cX0_advance 67 = .ok (.aload_n 0, 1) := by decide +kernel
theorem dX0_advance_68 : decode cX0_advance 68 = .ok (.dup, 1) := by decide +kernel
theorem dX0_advance_69 : decode cX0_advance 69 = .ok (.getfield 114, 3) := by decide +kernel
theorem dX0_advance_72 : decode cX0_advance 72 = .ok (.iload_n 2, 1) := by decide +kernel
theorem dX0_advance_73 : decode cX0_advance 73 = .ok (.iadd, 1) := by decide +kernel
theorem dX0_advance_74 : decode cX0_advance 74 = .ok (.putfield 114, 3) := by decide +kernel
theorem dX0_advance_77 : decode cX0_advance 77 = .ok (.iload_n 2, 1) := by decide +kernel
theorem dX0_advance_78 : decode cX0_advance 78 = .ok (.ireturn, 1) := by decide +kernel
theorem dX0_errorOfPayment_0 : decode cX0_errorOfPayment 0 = .ok (.aload_n 0, 1) := by decide +kernel
theorem dX0_errorOfPayment_1 : decode cX0_errorOfPayment 1 = .ok (.getfield 28, 3) := by decide +kernel
theorem dX0_errorOfPayment_4 : decode cX0_errorOfPayment 4 = .ok (.iload_n 1, 1) := by decide +kernel
theorem dX0_errorOfPayment_5 : decode cX0_errorOfPayment 5 = .ok (.invokevirtual 49, 3) := by decide +kernel
theorem dX0_errorOfPayment_8 : decode cX0_errorOfPayment 8 = .ok (.ifCond .ne 5, 3) := by decide +kernel
theorem dX0_errorOfPayment_11 : decode cX0_errorOfPayment 11 = .ok (.iconst (-1), 1) := by decide +kernel
theorem dX0_errorOfPayment_12 : decode cX0_errorOfPayment 12 = .ok (.ireturn, 1) := by decide +kernel
theorem dX0_errorOfPayment_13 : decode cX0_errorOfPayment 13 = .ok (.aload_n 0, 1) := by decide +kernel
theorem dX0_errorOfPayment_14 : decode cX0_errorOfPayment 14 = .ok (.getfield 28, 3) := by decide +kernel
theorem dX0_errorOfPayment_17 : decode cX0_errorOfPayment 17 = .ok (.iload_n 1, 1) := by decide +kernel
theorem dX0_errorOfPayment_18 : decode cX0_errorOfPayment 18 = .ok (.invokevirtual 101, 3) := by decide +kernel
theorem dX0_errorOfPayment_21 : decode cX0_errorOfPayment 21 = .ok (.ifCond .ne 6, 3) := by decide +kernel
theorem dX0_errorOfPayment_24 : decode cX0_errorOfPayment 24 = .ok (.bipush (-4), 2) := by decide +kernel
theorem dX0_errorOfPayment_26 : decode cX0_errorOfPayment 26 = .ok (.ireturn, 1) := by decide +kernel
theorem dX0_errorOfPayment_27 : decode cX0_errorOfPayment 27 = .ok (.aload_n 0, 1) := by decide +kernel
theorem dX0_errorOfPayment_28 : decode cX0_errorOfPayment 28 = .ok (.getfield 28, 3) := by decide +kernel
theorem dX0_errorOfPayment_31 : decode cX0_errorOfPayment 31 = .ok (.getfield 79, 3) := by decide +kernel
theorem dX0_errorOfPayment_34 : decode cX0_errorOfPayment 34 = .ok (.iload_n 1, 1) := by decide +kernel
theorem dX0_errorOfPayment_35 : decode cX0_errorOfPayment 35 = .ok (.iaload, 1) := by decide +kernel
theorem dX0_errorOfPayment_36 : decode cX0_errorOfPayment 36 = .ok (.aload_n 0, 1) := by decide +kernel
theorem dX0_errorOfPayment_37 : decode cX0_errorOfPayment 37 = .ok (.getfield 28, 3) := by decide +kernel
theorem dX0_errorOfPayment_40 : decode cX0_errorOfPayment 40 = .ok (.getfield 92, 3) := by decide +kernel
theorem dX0_errorOfPayment_43 : decode cX0_errorOfPayment 43 = .ok (.iload_n 1, 1) := by decide +kernel
theorem dX0_errorOfPayment_44 : decode cX0_errorOfPayment 44 = .ok (.iaload, 1) := by decide +kernel
theorem dX0_errorOfPayment_45 : decode cX0_errorOfPayment 45 = .ok (.isub, 1) := by decide +kernel
theorem dX0_errorOfPayment_46 : decode cX0_errorOfPayment 46 = .ok (.istore_n 3, 1) := by decide +kernel
theorem dX0_errorOfPayment_47 : decode cX0_errorOfPayment 47 = .ok (.iload_n 2, 1) := by decide +kernel
theorem dX0_errorOfPayment_48 : decode cX0_errorOfPayment 48 = .ok (.iconst 1, 1) := by decide +kernel
theorem dX0_errorOfPayment_49 : decode cX0_errorOfPayment 49 = .ok (.if_icmp .lt 8, 3) := by decide +kernel
theorem dX0_errorOfPayment_52 : decode cX0_errorOfPayment 52 = .ok (.iload_n 2, 1) := by decide +kernel
theorem dX0_errorOfPayment_53 : decode cX0_errorOfPayment 53 = .ok (.iload_n 3, 1) := by decide +kernel
theorem dX0_errorOfPayment_54 : decode cX0_errorOfPayment 54 = .ok (.if_icmp .le 8, 3) := by decide +kernel
theorem dX0_errorOfPayment_57 : decode cX0_errorOfPayment 57 = .ok (.bipush (-2), 2) := by decide +kernel
theorem dX0_errorOfPayment_59 : decode cX0_errorOfPayment 59 = .ok (.goto 4, 3) := by decide +kernel
theorem dX0_errorOfPayment_62 : decode cX0_errorOfPayment 62 = .ok (.iconst 0, 1) := by decide +kernel
theorem dX0_errorOfPayment_63 : decode cX0_errorOfPayment 63 = .ok (.ireturn, 1) := by decide +kernel
theorem dX0_collect_0 : decode cX0_collect 0 = .ok (.aload_n 0, 1) := by decide +kernel
theorem dX0_collect_1 : decode cX0_collect 1 = .ok (.getfield 28, 3) := by decide +kernel
theorem dX0_collect_4 : decode cX0_collect 4 = .ok (.iload_n 1, 1) := by decide +kernel
theorem dX0_collect_5 : decode cX0_collect 5 = .ok (.invokevirtual 49, 3) := by decide +kernel
theorem dX0_collect_8 : decode cX0_collect 8 = .ok (.ifCond .ne 5, 3) := by decide +kernel
theorem dX0_collect_11 : decode cX0_collect 11 = .ok (.iconst (-1), 1) := by decide +kernel
theorem dX0_collect_12 : decode cX0_collect 12 = .ok (.ireturn, 1) := by decide +kernel
theorem dX0_collect_13 : decode cX0_collect 13 = .ok (.aload_n 0, 1) := by decide +kernel
theorem dX0_collect_14 : decode cX0_collect 14 = .ok (.getfield 28, 3) := by decide +kernel
theorem dX0_collect_17 : decode cX0_collect 17 = .ok (.getfield 92, 3) := by decide +kernel
theorem dX0_collect_20 : decode cX0_collect 20 = .ok (.iload_n 1, 1) := by decide +kernel
theorem dX0_collect_21 : decode cX0_collect 21 = .ok (.dup2, 1) := by decide +kernel
theorem dX0_collect_22 : decode cX0_collect 22 = .ok (.iaload, 1) := by decide +kernel
theorem dX0_collect_23 : decode cX0_collect 23 = .ok (.iload_n 2, 1) := by decide +kernel
theorem dX0_collect_24 : decode cX0_collect 24 = .ok (.iadd, 1) := by decide +kernel
theorem dX0_collect_25 : decode cX0_collect 25 = .ok (.iastore, 1) := by decide +kernel
theorem dX0_collect_26 : decode cX0_collect 26 = .ok (.aload_n 0, 1) := by decide +kernel
theorem dX0_collect_27 : decode cX0_collect 27 = .ok (.dup, 1) := by decide +kernel
theorem dX0_collect_28 : decode cX0_collect 28 = .ok (.getfield 117, 3) := by decide +kernel
theorem dX0_collect_31 : decode cX0_collect 31 = .ok (.iload_n 2, 1) := by decide +kernel
theorem dX0_collect_32 : decode cX0_collect 32 = .ok (.iadd, 1) := by decide +kernel
theorem dX0_collect_33 : decode cX0_collect 33 = .ok (.putfield 117, 3) := by decide +kernel
theorem dX0_collect_36 : decode cX0_collect 36 = .ok (.aload_n 0, 1) := by decide +kernel
theorem dX0_collect_37 : decode cX0_collect 37 = .ok (.getfield 28, 3) := by decide +kernel
theorem dX0_collect_40 : decode cX0_collect 40 = .ok (.getfield 89, 3) := by decide +kernel
theorem dX0_collect_43 : decode cX0_collect 43 = .ok (.iload_n 1, 1) := by decide +kernel
theorem dX0_collect_44 : decode cX0_collect 44 = .ok (.iaload, 1) := by decide +kernel
theorem dX0_collect_45 : decode cX0_collect 45 = .ok (.iconst 1, 1) := by decide +kernel
theorem dX0_collect_46 : decode cX0_collect 46 = .ok (.if_icmp .ne 16, 3) := by decide +kernel
theorem dX0_collect_49 : decode cX0_collect 49 = .ok (.aload_n 0, 1) := by decide +kernel
theorem dX0_collect_50 : decode cX0_collect 50 = .ok (.dup, 1) := by decide +kernel
theorem dX0_collect_51 : decode cX0_collect 51 = .ok (.getfield 95, 3) := by decide +kernel
theorem dX0_collect_54 : decode cX0_collect 54 = .ok (.iload_n 2, 1) := by decide +kernel
theorem dX0_collect_55 : decode cX0_collect 55 = .ok (.iadd, 1) := by decide +kernel
theorem dX0_collect_56 : decode cX0_collect 56 = .ok (.putfield 95, 3) := by decide +kernel
theorem dX0_collect_59 : decode cX0_collect 59 = .ok (.goto 20, 3) := by decide +kernel
theorem dX0_collect_62 : decode cX0_collect 62 = .ok (.aload_n 0, 1) := by decide +kernel
theorem dX0_collect_63 : decode cX0_collect 63 = .ok (.getfield 12, 3) := by decide +kernel
theorem dX0_collect_66 : decode cX0_collect 66 = .ok (.aload_n 0, 1) := by decide +kernel
theorem dX0_collect_67 : decode cX0_collect 67 = .ok (.getfield 28, 3) := by decide +kernel
theorem dX0_collect_70 : decode cX0_collect 70 = .ok (.getfield 107, 3) := by decide +kernel
theorem dX0_collect_73 : decode cX0_collect 73 = .ok (.iload_n 1, 1) := by decide +kernel
theorem dX0_collect_74 : decode cX0_collect 74 = .ok (.iaload, 1) := by decide +kernel
theorem dX0_collect_75 : decode cX0_collect 75 = .ok (.iload_n 2, 1) := by decide +kernel
theorem dX0_collect_76 : decode cX0_collect 76 = .ok (.invokevirtual 110, 3) := by decide +kernel
theorem dX0_collect_79 : decode cX0_collect 79 = .ok (.aload_n 0, 1) := by decide +kernel
theorem dX0_collect_80 : decode cX0_collect 80 = .ok (.getfield 28, 3) := by decide +kernel
theorem dX0_collect_83 : decode cX0_collect 83 = .ok (.getfield 79, 3) := by decide +kernel
theorem dX0_collect_86 : decode cX0_collect 86 = .ok (.iload_n 1, 1) := by decide +kernel
theorem dX0_collect_87 : decode cX0_collect 87 = .ok (.iaload, 1) := by decide +kernel
theorem dX0_collect_88 : decode cX0_collect 88 = .ok (.aload_n 0, 1) := by decide +kernel
theorem dX0_collect_89 : decode cX0_collect 89 = .ok (.getfield 28, 3) := by decide +kernel
theorem dX0_collect_92 : decode cX0_collect 92 = .ok (.getfield 92, 3) := by decide +kernel
theorem dX0_collect_95 : decode cX0_collect 95 = .ok (.iload_n 1, 1) := by decide +kernel
theorem dX0_collect_96 : decode cX0_collect 96 = .ok (.iaload, 1) := by decide +kernel
theorem dX0_collect_97 : decode cX0_collect 97 = .ok (.isub, 1) := by decide +kernel
theorem dX0_collect_98 : decode cX0_collect 98 = .ok (.istore_n 3, 1) := by decide +kernel
theorem dX0_collect_99 : decode cX0_collect 99 = .ok (.iload_n 3, 1) := by decide +kernel
theorem dX0_collect_100 : decode cX0_collect 100 = .ok (.ifCond .ne 8, 3) := by decide +kernel
theorem dX0_collect_103 : decode cX0_collect 103 = .ok (.aload_n 0, 1) := by decide +kernel
theorem dX0_collect_104 : decode cX0_collect 104 = .ok (.iload_n 1, 1) := by decide +kernel
theorem dX0_collect_105 : decode cX0_collect 105 = .ok (.invokevirtual 120, 3) := by decide +kernel
theorem dX0_collect_108 : decode cX0_collect 108 = .ok (.iload_n 3, 1) := by decide +kernel
theorem dX0_collect_109 : decode cX0_collect 109 = .ok (.ireturn, 1) := by decide +kernel
theorem dX0_settle_0 : decode cX0_settle 0 = .ok (.aload_n 0, 1) := by decide +kernel
theorem dX0_settle_1 : decode cX0_settle 1 = .ok (.getfield 28, 3) := by decide +kernel
theorem dX0_settle_4 : decode cX0_settle 4 = .ok (.iload_n 1, 1) := by decide +kernel
theorem dX0_settle_5 : decode cX0_settle 5 = .ok (.invokevirtual 49, 3) := by decide +kernel
theorem dX0_settle_8 : decode cX0_settle 8 = .ok (.ifCond .ne 4, 3) := by decide +kernel
theorem dX0_settle_11 : decode cX0_settle 11 = .ok (.return_, 1) := by decide +kernel
theorem dX0_settle_12 : decode cX0_settle 12 = .ok (.aload_n 0, 1) := by decide +kernel
theorem dX0_settle_13 : decode cX0_settle 13 = .ok (.getfield 28, 3) := by decide +kernel
theorem dX0_settle_16 : decode cX0_settle 16 = .ok (.getfield 89, 3) := by decide +kernel
theorem dX0_settle_19 : decode cX0_settle 19 = .ok (.iload_n 1, 1) := by decide +kernel
theorem dX0_settle_20 : decode cX0_settle 20 = .ok (.iaload, 1) := by decide +kernel
theorem dX0_settle_21 : decode cX0_settle 21 = .ok (.iconst 1, 1) := by decide +kernel
theorem dX0_settle_22 : decode cX0_settle 22 = .ok (.if_icmp .ne 8, 3) := by decide +kernel
theorem dX0_settle_25 : decode cX0_settle 25 = .ok (.aload_n 0, 1) := by decide +kernel
theorem dX0_settle_26 : decode cX0_settle 26 = .ok (.iload_n 1, 1) := by decide +kernel
theorem dX0_settle_27 : decode cX0_settle 27 = .ok (.invokevirtual 124, 3) := by decide +kernel
theorem dX0_settle_30 : decode cX0_settle 30 = .ok (.aload_n 0, 1) := by decide +kernel
theorem dX0_settle_31 : decode cX0_settle 31 = .ok (.getfield 28, 3) := by decide +kernel
theorem dX0_settle_34 : decode cX0_settle 34 = .ok (.getfield 89, 3) := by decide +kernel
theorem dX0_settle_37 : decode cX0_settle 37 = .ok (.iload_n 1, 1) := by decide +kernel
theorem dX0_settle_38 : decode cX0_settle 38 = .ok (.iconst 2, 1) := by decide +kernel
theorem dX0_settle_39 : decode cX0_settle 39 = .ok (.iastore, 1) := by decide +kernel
theorem dX0_settle_40 : decode cX0_settle 40 = .ok (.aload_n 0, 1) := by decide +kernel
theorem dX0_settle_41 : decode cX0_settle 41 = .ok (.getfield 21, 3) := by decide +kernel
theorem dX0_settle_44 : decode cX0_settle 44 = .ok (.aload_n 0, 1) := by decide +kernel
theorem dX0_settle_45 : decode cX0_settle 45 = .ok (.getfield 28, 3) := by decide +kernel
theorem dX0_settle_48 : decode cX0_settle 48 = .ok (.getfield 72, 3) := by decide +kernel
theorem dX0_settle_51 : decode cX0_settle 51 = .ok (.iload_n 1, 1) := by decide +kernel
theorem dX0_settle_52 : decode cX0_settle 52 = .ok (.iaload, 1) := by decide +kernel
theorem dX0_settle_53 : decode cX0_settle 53 = .ok (.aload_n 0, 1) := by decide +kernel
theorem dX0_settle_54 : decode cX0_settle 54 = .ok (.iload_n 1, 1) := by decide +kernel
theorem dX0_settle_55 : decode cX0_settle 55 = .ok (.iconst 0, 1) := by decide +kernel
theorem dX0_settle_56 : decode cX0_settle 56 = .ok (.invokevirtual 68, 3) := by decide +kernel
theorem dX0_settle_59 : decode cX0_settle 59 = .ok (.invokevirtual 127, 3) := by decide +kernel
theorem dX0_settle_62 : decode cX0_settle 62 = .ok (.return_, 1) := by decide +kernel
theorem dX0_passOn_0 : decode cX0_passOn 0 = .ok (.aload_n 0, 1) := by decide +kernel
theorem dX0_passOn_1 : decode cX0_passOn 1 = .ok (.getfield 28, 3) := by decide +kernel
theorem dX0_passOn_4 : decode cX0_passOn 4 = .ok (.iload_n 1, 1) := by decide +kernel
theorem dX0_passOn_5 : decode cX0_passOn 5 = .ok (.invokevirtual 49, 3) := by decide +kernel
theorem dX0_passOn_8 : decode cX0_passOn 8 = .ok (.ifCond .ne 4, 3) := by decide +kernel
theorem dX0_passOn_11 : decode cX0_passOn 11 = .ok (.return_, 1) := by decide +kernel
theorem dX0_passOn_12 : decode cX0_passOn 12 = .ok (.aload_n 0, 1) := by decide +kernel
theorem dX0_passOn_13 : decode cX0_passOn 13 = .ok (.getfield 28, 3) := by decide +kernel
theorem dX0_passOn_16 : decode cX0_passOn 16 = .ok (.getfield 79, 3) := by decide +kernel
theorem dX0_passOn_19 : decode cX0_passOn 19 = .ok (.iload_n 1, 1) := by decide +kernel
theorem dX0_passOn_20 : decode cX0_passOn 20 = .ok (.iaload, 1) := by decide +kernel
theorem dX0_passOn_21 : decode cX0_passOn 21 = .ok (.i2f, 1) := by decide +kernel
theorem dX0_passOn_22 : decode cX0_passOn 22 = .ok (.aload_n 0, 1) := by decide +kernel
theorem dX0_passOn_23 : decode cX0_passOn 23 = .ok (.getfield 32, 3) := by decide +kernel
theorem dX0_passOn_26 : decode cX0_passOn 26 = .ok (.iconst 2, 1) := by decide +kernel
theorem dX0_passOn_27 : decode cX0_passOn 27 = .ok (.faload, 1) := by decide +kernel
theorem dX0_passOn_28 : decode cX0_passOn 28 = .ok (.fmul, 1) := by decide +kernel
theorem dX0_passOn_29 : decode cX0_passOn 29 = .ok (.f2i, 1) := by decide +kernel
theorem dX0_passOn_30 : decode cX0_passOn 30 = .ok (.istore_n 2, 1) := by decide +kernel
theorem dX0_passOn_31 : decode cX0_passOn 31 = .ok (.aload_n 0, 1) := by decide +kernel
theorem dX0_passOn_32 : decode cX0_passOn 32 = .ok (.getfield 28, 3) := by decide +kernel
theorem dX0_passOn_35 : decode cX0_passOn 35 = .ok (.getfield 79, 3) := by decide +kernel
theorem dX0_passOn_38 : decode cX0_passOn 38 = .ok (.iload_n 1, 1) := by decide +kernel
theorem dX0_passOn_39 : decode cX0_passOn 39 = .ok (.iaload, 1) := by decide +kernel
theorem dX0_passOn_40 : decode cX0_passOn 40 = .ok (.aload_n 0, 1) := by decide +kernel
theorem dX0_passOn_41 : decode cX0_passOn 41 = .ok (.getfield 28, 3) := by decide +kernel
theorem dX0_passOn_44 : decode cX0_passOn 44 = .ok (.getfield 104, 3) := by decide +kernel
theorem dX0_passOn_47 : decode cX0_passOn 47 = .ok (.iload_n 1, 1) := by decide +kernel
theorem dX0_passOn_48 : decode cX0_passOn 48 = .ok (.iaload, 1) := by decide +kernel
theorem dX0_passOn_49 : decode cX0_passOn 49 = .ok (.isub, 1) := by decide +kernel
theorem dX0_passOn_50 : decode cX0_passOn 50 = .ok (.iload_n 2, 1) := by decide +kernel
theorem dX0_passOn_51 : decode cX0_passOn 51 = .ok (.isub, 1) := by decide +kernel
theorem dX0_passOn_52 : decode cX0_passOn 52 = .ok (.istore_n 3, 1) := by decide +kernel
theorem dX0_passOn_53 : decode cX0_passOn 53 = .ok (.iload_n 3, 1) := by decide +kernel
theorem dX0_passOn_54 : decode cX0_passOn 54 = .ok (.ifCond .gt 4, 3) := by decide +kernel
theorem dX0_passOn_57 : decode cX0_passOn 57 = .ok (.return_, 1) := by decide +kernel
theorem dX0_passOn_58 : decode cX0_passOn 58 = .ok (.aload_n 0, 1) := by decide +kernel
theorem dX0_passOn_59 : decode cX0_passOn 59 = .ok (.dup, 1) := by decide +kernel
theorem dX0_passOn_60 : decode cX0_passOn 60 = .ok (.getfield 95, 3) := by decide +kernel
theorem dX0_passOn_63 : decode cX0_passOn 63 = .ok (.iload_n 3, 1) := by decide +kernel
theorem dX0_passOn_64 : decode cX0_passOn 64 = .ok (.isub, 1) := by decide +kernel
theorem dX0_passOn_65 : decode cX0_passOn 65 = .ok (.putfield 95, 3) := by decide +kernel
theorem dX0_passOn_68 : decode cX0_passOn 68 = .ok (.aload_n 0, 1) := by decide +kernel
theorem dX0_passOn_69 : decode cX0_passOn 69 = .ok (.dup, 1) := by decide +kernel
theorem dX0_passOn_70 : decode cX0_passOn 70 = .ok (.getfield 130, 3) := by decide +kernel
theorem dX0_passOn_73 : decode cX0_passOn 73 = .ok (.iload_n 3, 1) := by decide +kernel
theorem dX0_passOn_74 : decode cX0_passOn 74 = .ok (.iadd, 1) := by decide +kernel
theorem dX0_passOn_75 : decode cX0_passOn 75 = .ok (.putfield 130, 3) := by decide +kernel
theorem dX0_passOn_78 : decode cX0_passOn 78 = .ok (.aload_n 0, 1) := by decide +kernel
theorem dX0_passOn_79 : decode cX0_passOn 79 = .ok (.getfield 12, 3) := by decide +kernel
theorem dX0_passOn_82 : decode cX0_passOn 82 = .ok (.aload_n 0, 1) := by decide +kernel
theorem dX0_passOn_83 : decode cX0_passOn 83 = .ok (.getfield 28, 3) := by decide +kernel
theorem dX0_passOn_86 : decode cX0_passOn 86 = .ok (.getfield 107, 3) := by decide +kernel
theorem dX0_passOn_89 : decode cX0_passOn 89 = .ok (.iload_n 1, 1) := by decide +kernel
theorem dX0_passOn_90 : decode cX0_passOn 90 = .ok (.iaload, 1) := by decide +kernel
theorem dX0_passOn_91 : decode cX0_passOn 91 = .ok (.iload_n 3, 1) := by decide +kernel
theorem dX0_passOn_92 : decode cX0_passOn 92 = .ok (.invokevirtual 110, 3) := by decide +kernel
theorem dX0_passOn_95 : decode cX0_passOn 95 = .ok (.return_, 1) := by decide +kernel
theorem dX0_lose_0 : decode cX0_lose 0 = .ok (.aload_n 0, 1) := by decide +kernel
theorem dX0_lose_1 : decode cX0_lose 1 = .ok (.getfield 28, 3) := by decide +kernel
theorem dX0_lose_4 : decode cX0_lose 4 = .ok (.iload_n 1, 1) := by decide +kernel
theorem dX0_lose_5 : decode cX0_lose 5 = .ok (.invokevirtual 49, 3) := by decide +kernel
theorem dX0_lose_8 : decode cX0_lose 8 = .ok (.ifCond .ne 5, 3) := by decide +kernel
theorem dX0_lose_11 : decode cX0_lose 11 = .ok (.iconst (-1), 1) := by decide +kernel
theorem dX0_lose_12 : decode cX0_lose 12 = .ok (.ireturn, 1) := by decide +kernel
theorem dX0_lose_13 : decode cX0_lose 13 = .ok (.aload_n 0, 1) := by decide +kernel
theorem dX0_lose_14 : decode cX0_lose 14 = .ok (.getfield 28, 3) := by decide +kernel
theorem dX0_lose_17 : decode cX0_lose 17 = .ok (.getfield 89, 3) := by decide +kernel
theorem dX0_lose_20 : decode cX0_lose 20 = .ok (.iload_n 1, 1) := by decide +kernel
theorem dX0_lose_21 : decode cX0_lose 21 = .ok (.iaload, 1) := by decide +kernel
theorem dX0_lose_22 : decode cX0_lose 22 = .ok (.iconst 1, 1) := by decide +kernel
theorem dX0_lose_23 : decode cX0_lose 23 = .ok (.if_icmp .ne 7, 3) := by decide +kernel
theorem dX0_lose_26 : decode cX0_lose 26 = .ok (.iconst 1, 1) := by decide +kernel
theorem dX0_lose_27 : decode cX0_lose 27 = .ok (.goto 4, 3) := by decide +kernel
theorem dX0_lose_30 : decode cX0_lose 30 = .ok (.iconst 0, 1) := by decide +kernel
theorem dX0_lose_31 : decode cX0_lose 31 = .ok (.istore_n 2, 1) := by decide +kernel
theorem dX0_lose_32 : decode cX0_lose 32 = .ok (.aload_n 0, 1) := by decide +kernel
theorem dX0_lose_33 : decode cX0_lose 33 = .ok (.getfield 28, 3) := by decide +kernel
theorem dX0_lose_36 : decode cX0_lose 36 = .ok (.getfield 89, 3) := by decide +kernel
theorem dX0_lose_39 : decode cX0_lose 39 = .ok (.iload_n 1, 1) := by decide +kernel
theorem dX0_lose_40 : decode cX0_lose 40 = .ok (.iconst 3, 1) := by decide +kernel
theorem dX0_lose_41 : decode cX0_lose 41 = .ok (.iastore, 1) := by decide +kernel
theorem dX0_lose_42 : decode cX0_lose 42 = .ok (.aload_n 0, 1) := by decide +kernel
theorem dX0_lose_43 : decode cX0_lose 43 = .ok (.getfield 21, 3) := by decide +kernel
theorem dX0_lose_46 : decode cX0_lose 46 = .ok (.aload_n 0, 1) := by decide +kernel
theorem dX0_lose_47 : decode cX0_lose 47 = .ok (.getfield 28, 3) := by decide +kernel
theorem dX0_lose_50 : decode cX0_lose 50 = .ok (.getfield 72, 3) := by decide +kernel
theorem dX0_lose_53 : decode cX0_lose 53 = .ok (.iload_n 1, 1) := by decide +kernel
theorem dX0_lose_54 : decode cX0_lose 54 = .ok (.iaload, 1) := by decide +kernel
theorem dX0_lose_55 : decode cX0_lose 55 = .ok (.invokevirtual 133, 3) := by decide +kernel
theorem dX0_lose_58 : decode cX0_lose 58 = .ok (.aload_n 0, 1) := by decide +kernel
theorem dX0_lose_59 : decode cX0_lose 59 = .ok (.getfield 28, 3) := by decide +kernel
theorem dX0_lose_62 : decode cX0_lose 62 = .ok (.getfield 104, 3) := by decide +kernel
theorem dX0_lose_65 : decode cX0_lose 65 = .ok (.iload_n 1, 1) := by decide +kernel
theorem dX0_lose_66 : decode cX0_lose 66 = .ok (.iaload, 1) := by decide +kernel
theorem dX0_lose_67 : decode cX0_lose 67 = .ok (.aload_n 0, 1) := by decide +kernel
theorem dX0_lose_68 : decode cX0_lose 68 = .ok (.getfield 28, 3) := by decide +kernel
theorem dX0_lose_71 : decode cX0_lose 71 = .ok (.getfield 92, 3) := by decide +kernel
theorem dX0_lose_74 : decode cX0_lose 74 = .ok (.iload_n 1, 1) := by decide +kernel
theorem dX0_lose_75 : decode cX0_lose 75 = .ok (.iaload, 1) := by decide +kernel
theorem dX0_lose_76 : decode cX0_lose 76 = .ok (.isub, 1) := by decide +kernel
theorem dX0_lose_77 : decode cX0_lose 77 = .ok (.istore_n 3, 1) := by decide +kernel
theorem dX0_lose_78 : decode cX0_lose 78 = .ok (.iload_n 2, 1) := by decide +kernel
theorem dX0_lose_79 : decode cX0_lose 79 = .ok (.ifCond .eq 7, 3) := by decide +kernel
theorem dX0_lose_82 : decode cX0_lose 82 = .ok (.iload_n 3, 1) := by decide +kernel
theorem dX0_lose_83 : decode cX0_lose 83 = .ok (.ifCond .gt 5, 3) := by decide +kernel
theorem dX0_lose_86 : decode cX0_lose 86 = .ok (.iconst 0, 1) := by decide +kernel
theorem dX0_lose_87 : decode cX0_lose 87 = .ok (.ireturn, 1) := by decide +kernel
theorem dX0_lose_88 : decode cX0_lose 88 = .ok (.aload_n 0, 1) := by decide +kernel
theorem dX0_lose_89 : decode cX0_lose 89 = .ok (.iload_n 3, 1) := by decide +kernel
theorem dX0_lose_90 : decode cX0_lose 90 = .ok (.invokevirtual 136, 3) := by decide +kernel
theorem dX0_lose_93 : decode cX0_lose 93 = .ok (.iload_n 3, 1) := by decide +kernel
theorem dX0_lose_94 : decode cX0_lose 94 = .ok (.ireturn, 1) := by decide +kernel
theorem dX0_share_0 : decode cX0_share 0 = .ok (.aload_n 0, 1) := by decide +kernel
theorem dX0_share_1 : decode cX0_share 1 = .ok (.getfield 12, 3) := by decide +kernel
theorem dX0_share_4 : decode cX0_share 4 = .ok (.invokevirtual 139, 3) := by decide +kernel
theorem dX0_share_7 : decode cX0_share 7 = .ok (.istore_n 2, 1) := by decide +kernel
theorem dX0_share_8 : decode cX0_share 8 = .ok (.iload_n 2, 1) := by decide +kernel
theorem dX0_share_9 : decode cX0_share 9 = .ok (.ifCond .gt 4, 3) := by decide +kernel
theorem dX0_share_12 : decode cX0_share 12 = .ok (.return_, 1) := by decide +kernel
theorem dX0_share_13 : decode cX0_share 13 = .ok (.iload_n 1, 1) := by decide +kernel
theorem dX0_share_14 : decode cX0_share 14 = .ok (.istore_n 3, 1) := by decide +kernel
theorem dX0_share_15 : decode cX0_share 15 = .ok (.iconst 0, 1) := by decide +kernel
theorem dX0_share_16 : decode cX0_share 16 = .ok (.istore 4, 2) := by decide +kernel
theorem dX0_share_18 : decode cX0_share 18 = .ok (.iload 4, 2) := by decide +kernel
theorem dX0_share_20 : decode cX0_share 20 = .ok (.bipush 8, 2) := by decide +kernel
theorem dX0_share_22 : decode cX0_share 22 = .ok (.if_icmp .ge 60, 3) := by decide +kernel
theorem dX0_share_25 : decode cX0_share 25 = .ok (.aload_n 0, 1) := by decide +kernel
theorem dX0_share_26 : decode cX0_share 26 = .ok (.getfield 12, 3) := by decide +kernel
theorem dX0_share_29 : decode cX0_share 29 = .ok (.iload 4, 2) := by decide +kernel
theorem dX0_share_31 : decode cX0_share 31 = .ok (.invokevirtual 142, 3) := by decide +kernel
theorem dX0_share_34 : decode cX0_share 34 = .ok (.ifCond .ne 6, 3) := by decide +kernel
theorem dX0_share_37 : decode cX0_share 37 = .ok (.goto 45, 3) := by decide +kernel
theorem dX0_share_40 : decode cX0_share 40 = .ok (.iload_n 1, 1) := by decide +kernel
theorem dX0_share_41 : decode cX0_share 41 = .ok (.i2f, 1) := by decide +kernel
theorem dX0_share_42 : decode cX0_share 42 = .ok (.aload_n 0, 1) := by decide +kernel
theorem dX0_share_43 : decode cX0_share 43 = .ok (.getfield 12, 3) := by decide +kernel
theorem dX0_share_46 : decode cX0_share 46 = .ok (.getfield 143, 3) := by decide +kernel
theorem dX0_share_49 : decode cX0_share 49 = .ok (.iload 4, 2) := by decide +kernel
theorem dX0_share_51 : decode cX0_share 51 = .ok (.iaload, 1) := by decide +kernel
theorem dX0_share_52 : decode cX0_share 52 = .ok (.i2f, 1) := by decide +kernel
theorem dX0_share_53 : decode cX0_share 53 = .ok (.fmul, 1) := by decide +kernel
theorem dX0_share_54 : decode cX0_share 54 = .ok (.iload_n 2, 1) := by decide +kernel
theorem dX0_share_55 : decode cX0_share 55 = .ok (.i2f, 1) := by decide +kernel
theorem dX0_share_56 : decode cX0_share 56 = .ok (.fdiv, 1) := by decide +kernel
theorem dX0_share_57 : decode cX0_share 57 = .ok (.f2i, 1) := by decide +kernel
theorem dX0_share_58 : decode cX0_share 58 = .ok (.istore 5, 2) := by decide +kernel
theorem dX0_share_60 : decode cX0_share 60 = .ok (.aload_n 0, 1) := by decide +kernel
theorem dX0_share_61 : decode cX0_share 61 = .ok (.getfield 12, 3) := by decide +kernel
theorem dX0_share_64 : decode cX0_share 64 = .ok (.iload 4, 2) := by decide +kernel
theorem dX0_share_66 : decode cX0_share 66 = .ok (.iload 5, 2) := by decide +kernel
theorem dX0_share_68 : decode cX0_share 68 = .ok (.invokevirtual 146, 3) := by decide +kernel
theorem dX0_share_71 : decode cX0_share 71 = .ok (.iload_n 3, 1) := by decide +kernel
theorem dX0_share_72 : decode cX0_share 72 = .ok (.iload 5, 2) := by decide +kernel
theorem dX0_share_74 : decode cX0_share 74 = .ok (.isub, 1) := by decide +kernel
theorem dX0_share_75 : decode cX0_share 75 = .ok (.istore_n 3, 1) := by decide +kernel
theorem dX0_share_76 : decode cX0_share 76 = .ok (.iinc 4 1, 3) := by decide +kernel
theorem dX0_share_79 : decode cX0_share 79 = .ok (.goto (-61), 3) := by decide +kernel
theorem dX0_share_82 : decode cX0_share 82 = .ok (.iload_n 3, 1) := by decide +kernel
theorem dX0_share_83 : decode cX0_share 83 = .ok (.ifCond .ge 7, 3) := by decide +kernel
theorem dX0_share_86 : decode cX0_share 86 = .ok (.iconst (-1), 1) := by decide +kernel
theorem dX0_share_87 : decode cX0_share 87 = .ok (.goto 4, 3) := by decide +kernel
theorem dX0_share_90 : decode cX0_share 90 = .ok (.iconst 1, 1) := by decide +kernel
theorem dX0_share_91 : decode cX0_share 91 = .ok (.istore 4, 2) := by decide +kernel
theorem dX0_share_93 : decode cX0_share 93 = .ok (.iload_n 3, 1) := by decide +kernel
theorem dX0_share_94 : decode cX0_share 94 = .ok (.ifCond .ge 8, 3) := by decide +kernel
theorem dX0_share_97 : decode cX0_share 97 = .ok (.iload_n 3, 1) := by decide +kernel
theorem dX0_share_98 : decode cX0_share 98 = .ok (.ineg, 1) := by decide +kernel
theorem dX0_share_99 : decode cX0_share 99 = .ok (.goto 4, 3) := by decide +kernel
theorem dX0_share_102 : decode cX0_share 102 = .ok (.iload_n 3, 1) := by decide +kernel
theorem dX0_share_103 : decode cX0_share 103 = .ok (.istore 5, 2) := by decide +kernel
theorem dX0_share_105 : decode cX0_share 105 = .ok (.iconst 0, 1) := by decide +kernel
theorem dX0_share_106 : decode cX0_share 106 = .ok (.istore 6, 2) := by decide +kernel
theorem dX0_share_108 : decode cX0_share 108 = .ok (.iconst 0, 1) := by decide +kernel
theorem dX0_share_109 : decode cX0_share 109 = .ok (.istore 7, 2) := by decide +kernel
theorem dX0_share_111 : decode cX0_share 111 = .ok (.iload 7, 2) := by decide +kernel
theorem dX0_share_113 : decode cX0_share 113 = .ok (.iload 5, 2) := by decide +kernel
theorem dX0_share_115 : decode cX0_share 115 = .ok (.if_icmp .ge 44, 3) := by decide +kernel
theorem dX0_share_118 : decode cX0_share 118 = .ok (.aload_n 0, 1) := by decide +kernel
theorem dX0_share_119 : decode cX0_share 119 = .ok (.getfield 12, 3) := by decide +kernel
theorem dX0_share_122 : decode cX0_share 122 = .ok (.iload 6, 2) := by decide +kernel
theorem dX0_share_124 : decode cX0_share 124 = .ok (.iload 4, 2) := by decide +kernel
theorem dX0_share_126 : decode cX0_share 126 = .ok (.invokevirtual 146, 3) := by decide +kernel
theorem dX0_share_129 : decode cX0_share 129 = .ok (.aload_n 0, 1) := by decide +kernel
theorem dX0_share_130 : decode cX0_share 130 = .ok (.getfield 12, 3) := by decide +kernel
theorem dX0_share_133 : decode cX0_share 133 = .ok (.iload 6, 2) := by decide +kernel
theorem dX0_share_135 : decode cX0_share 135 = .ok (.iconst 1, 1) := by decide +kernel
theorem dX0_share_136 : decode cX0_share 136 = .ok (.iadd, 1) := by decide +kernel
theorem dX0_share_137 : decode cX0_share 137 = .ok (.invokevirtual 142, 3) := by decide +kernel
theorem dX0_share_140 : decode cX0_share 140 = .ok (.ifCond .eq 10, 3) := by decide +kernel
theorem dX0_share_143 : decode cX0_share 143 = .ok (.iload 6, 2) := by decide +kernel
theorem dX0_share_145 : decode cX0_share 145 = .ok (.iconst 1, 1) := by decide +kernel
theorem dX0_share_146 : decode cX0_share 146 = .ok (.iadd, 1) := by decide +kernel
theorem dX0_share_147 : decode cX0_share 147 = .ok (.goto 4, 3) := by decide +kernel
theorem dX0_share_150 : decode cX0_share 150 = .ok (.iconst 0, 1) := by decide +kernel
theorem dX0_share_151 : decode cX0_share 151 = .ok (.istore 6, 2) := by decide +kernel
theorem dX0_share_153 : decode cX0_share 153 = .ok (.iinc 7 1, 3) := by decide +kernel
theorem dX0_share_156 : decode cX0_share 156 = .ok (.goto (-45), 3) := by decide +kernel
theorem dX0_share_159 : decode cX0_share 159 = .ok (.aload_n 0, 1) := by decide +kernel
theorem dX0_share_160 : decode cX0_share 160 = .ok (.dup, 1) := by decide +kernel
theorem dX0_share_161 : decode cX0_share 161 = .ok (.getfield 95, 3) := by decide +kernel
theorem dX0_share_164 : decode cX0_share 164 = .ok (.iload_n 1, 1) := by decide +kernel
theorem dX0_share_165 : decode cX0_share 165 = .ok (.iadd, 1) := by decide +kernel
theorem dX0_share_166 : decode cX0_share 166 = .ok (.putfield 95, 3) := by decide +kernel
theorem dX0_share_169 : decode cX0_share 169 = .ok (.aload_n 0, 1) := by decide +kernel
theorem dX0_share_170 : decode cX0_share 170 = .ok (.dup, 1) := by decide +kernel
theorem dX0_share_171 : decode cX0_share 171 = .ok (.getfield 149, 3) := by decide +kernel
theorem dX0_share_174 : decode cX0_share 174 = .ok (.iload_n 1, 1) := by decide +kernel
theorem dX0_share_175 : decode cX0_share 175 = .ok (.iadd, 1) := by decide +kernel
theorem dX0_share_176 : decode cX0_share 176 = .ok (.putfield 149, 3) := by decide +kernel
theorem dX0_share_179 : decode cX0_share 179 = .ok (.return_, 1) := by decide +kernel
theorem dX0_copyFrom_0 : decode cX0_copyFrom 0 = .ok (.aload_n 0, 1) := by decide +kernel
theorem dX0_copyFrom_1 : decode cX0_copyFrom 1 = .ok (.getfield 12, 3) := by decide +kernel
theorem dX0_copyFrom_4 : decode cX0_copyFrom 4 = .ok (.aload_n 1, 1) := by decide +kernel
theorem dX0_copyFrom_5 : decode cX0_copyFrom 5 = .ok (.getfield 12, 3) := by decide +kernel
theorem dX0_copyFrom_8 : decode cX0_copyFrom 8 = .ok (.invokevirtual 152, 3) := by decide +kernel
theorem dX0_copyFrom_11 : decode cX0_copyFrom 11 = .ok (.aload_n 0, 1) := by decide +kernel
theorem dX0_copyFrom_12 : decode cX0_copyFrom 12 = .ok (.getfield 21, 3) := by decide +kernel
theorem dX0_copyFrom_15 : decode cX0_copyFrom 15 = .ok (.aload_n 1, 1) := by decide +kernel
theorem dX0_copyFrom_16 : decode cX0_copyFrom 16 = .ok (.getfield 21, 3) := by decide +kernel
theorem dX0_copyFrom_19 : decode cX0_copyFrom 19 = .ok (.invokevirtual 156, 3) := by decide +kernel
theorem dX0_copyFrom_22 : decode cX0_copyFrom 22 = .ok (.aload_n 0, 1) := by decide +kernel
theorem dX0_copyFrom_23 : decode cX0_copyFrom 23 = .ok (.getfield 28, 3) := by decide +kernel
theorem dX0_copyFrom_26 : decode cX0_copyFrom 26 = .ok (.aload_n 1, 1) := by decide +kernel
theorem dX0_copyFrom_27 : decode cX0_copyFrom 27 = .ok (.getfield 28, 3) := by decide +kernel
theorem dX0_copyFrom_30 : decode cX0_copyFrom 30 = .ok (.invokevirtual 159, 3) := by decide +kernel
theorem dX0_copyFrom_33 : decode cX0_copyFrom 33 = .ok (.iconst 0, 1) := by decide +kernel
theorem dX0_copyFrom_34 : decode cX0_copyFrom 34 = .ok (.istore_n 2, 1) := by decide +kernel
theorem dX0_copyFrom_35 : decode cX0_copyFrom 35 = .ok (.iload_n 2, 1) := by decide +kernel
theorem dX0_copyFrom_36 : decode cX0_copyFrom 36 = .ok (.iconst 3, 1) := by decide +kernel
theorem dX0_copyFrom_37 : decode cX0_copyFrom 37 = .ok (.if_icmp .ge 21, 3) := by decide +kernel
theorem dX0_copyFrom_40 : decode cX0_copyFrom 40 = .ok (.aload_n 0, 1) := by decide +kernel
theorem dX0_copyFrom_41 : decode cX0_copyFrom 41 = .ok (.getfield 32, 3) := by decide +kernel
theorem dX0_copyFrom_44 : decode cX0_copyFrom 44 = .ok (.iload_n 2, 1) := by decide +kernel
theorem dX0_copyFrom_45 : decode cX0_copyFrom 45 = .ok (.aload_n 1, 1) := by decide +kernel
theorem dX0_copyFrom_46 : decode cX0_copyFrom 46 = .ok (.getfield 32, 3) := by decide +kernel
theorem dX0_copyFrom_49 : decode cX0_copyFrom 49 = .ok (.iload_n 2, 1) := by decide +kernel
theorem dX0_copyFrom_50 : decode cX0_copyFrom 50 = .ok (.faload, 1) := by decide +kernel
theorem dX0_copyFrom_51 : decode cX0_copyFrom 51 = .ok (.fastore, 1) := by decide +kernel
theorem dX0_copyFrom_52 : decode cX0_copyFrom 52 = .ok (.iinc 2 1, 3) := by decide +kernel
theorem dX0_copyFrom_55 : decode cX0_copyFrom 55 = .ok (.goto (-20), 3) := by decide +kernel
theorem dX0_copyFrom_58 : decode cX0_copyFrom 58 = .ok (.aload_n 1, 1) := by decide +kernel
theorem dX0_copyFrom_59 : decode cX0_copyFrom 59 = .ok (.getfield 36, 3) := by decide +kernel
theorem dX0_copyFrom_62 : decode cX0_copyFrom 62 = .ok (.aload_n 0, 1) := by decide +kernel
theorem dX0_copyFrom_63 : decode cX0_copyFrom 63 = .ok (.getfield 36, 3) := by decide +kernel
theorem dX0_copyFrom_66 : decode cX0_copyFrom 66 = .ok (.invokestatic 162, 3) := by decide +kernel
theorem dX0_copyFrom_69 : decode cX0_copyFrom 69 = .ok (.aload_n 0, 1) := by decide +kernel
theorem dX0_copyFrom_70 : decode cX0_copyFrom 70 = .ok (.aload_n 1, 1) := by decide +kernel
theorem dX0_copyFrom_71 : decode cX0_copyFrom 71 = .ok (.getfield 53, 3) := by decide +kernel
theorem dX0_copyFrom_74 : decode cX0_copyFrom 74 = .ok (.putfield 53, 3) := by decide +kernel
theorem dX0_copyFrom_77 : decode cX0_copyFrom 77 = .ok (.aload_n 0, 1) := by decide +kernel
theorem dX0_copyFrom_78 : decode cX0_copyFrom 78 = .ok (.aload_n 1, 1) := by decide +kernel
theorem dX0_copyFrom_79 : decode cX0_copyFrom 79 = .ok (.getfield 95, 3) := by decide +kernel
theorem dX0_copyFrom_82 : decode cX0_copyFrom 82 = .ok (.putfield 95, 3) := by decide +kernel
theorem dX0_copyFrom_85 : decode cX0_copyFrom 85 = .ok (.aload_n 0, 1) := by decide +kernel
theorem dX0_copyFrom_86 : decode cX0_copyFrom 86 = .ok (.aload_n 1, 1) := by decide +kernel
theorem dX0_copyFrom_87 : decode cX0_copyFrom 87 = .ok (.getfield 114, 3) := by decide +kernel
theorem dX0_copyFrom_90 : decode cX0_copyFrom 90 = .ok (.putfield 114, 3) := by decide +kernel
theorem dX0_copyFrom_93 : decode cX0_copyFrom 93 = .ok (.aload_n 0, 1) := by decide +kernel
theorem dX0_copyFrom_94 : decode cX0_copyFrom 94 = .ok (.aload_n 1, 1) := by decide +kernel
theorem dX0_copyFrom_95 : decode cX0_copyFrom 95 = .ok (.getfield 117, 3) := by decide +kernel
theorem dX0_copyFrom_98 : decode cX0_copyFrom 98 = .ok (.putfield 117, 3) := by decide +kernel
theorem dX0_copyFrom_101 : decode cX0_copyFrom 101 = .ok (.aload_n 0, 1) := by decide +kernel
theorem dX0_copyFrom_102 : decode cX0_copyFrom 102 = .ok (.aload_n 1, 1) := by decide +kernel
theorem dX0_copyFrom_103 : decode cX0_copyFrom 103 = .ok (.getfield 130, 3) := by decide +kernel
theorem dX0_copyFrom_106 : decode cX0_copyFrom 106 = .ok (.putfield 130, 3) := by decide +kernel
theorem dX0_copyFrom_109 : decode cX0_copyFrom 109 = .ok (.aload_n 0, 1) := by decide +kernel
theorem dX0_copyFrom_110 : decode cX0_copyFrom 110 = .ok (.aload_n 1, 1) := by decide +kernel
theorem dX0_copyFrom_111 : decode cX0_copyFrom 111 = .ok (.getfield 149, 3) := by decide +kernel
theorem dX0_copyFrom_114 : decode cX0_copyFrom 114 = .ok (.putfield 149, 3) := by decide +kernel
theorem dX0_copyFrom_117 : decode cX0_copyFrom 117 = .ok (.return_, 1) := by decide +kernel
theorem dX1_init_0 : decode cX1_init 0 = .ok (.aload_n 0, 1) := by decide +kernel
theorem dX1_init_1 : decode cX1_init 1 = .ok (.invokespecial 3, 3) := by decide +kernel
theorem dX1_init_4 : decode cX1_init 4 = .ok (.aload_n 0, 1) := by decide +kernel
theorem dX1_init_5 : decode cX1_init 5 = .ok (.bipush 6, 2) := by decide +kernel
theorem dX1_init_7 : decode cX1_init 7 = .ok (.newarray .int, 2) := by decide +kernel
theorem dX1_init_9 : decode cX1_init 9 = .ok (.putfield 9, 3) := by decide +kernel
theorem dX1_init_12 : decode cX1_init 12 = .ok (.aload_n 0, 1) := by decide +kernel
theorem dX1_init_13 : decode cX1_init 13 = .ok (.bipush 6, 2) := by decide +kernel
theorem dX1_init_15 : decode cX1_init 15 = .ok (.newarray .int, 2) := by decide +kernel
theorem dX1_init_17 : decode cX1_init 17 = .ok (.putfield 15, 3) := by decide +kernel
theorem dX1_init_20 : decode cX1_init 20 = .ok (.aload_n 0, 1) := by decide +kernel
theorem dX1_init_21 : decode cX1_init 21 = .ok (.bipush 6, 2) := by decide +kernel
theorem dX1_init_23 : decode cX1_init 23 = .ok (.newarray .int, 2) := by decide +kernel
theorem dX1_init_25 : decode cX1_init 25 = .ok (.putfield 18, 3) := by decide +kernel
theorem dX1_init_28 : decode cX1_init 28 = .ok (.return_, 1) := by decide +kernel
theorem dX1_has_0 : decode cX1_has 0 = .ok (.iload_n 1, 1) := by decide +kernel
theorem dX1_has_1 : decode cX1_has 1 = .ok (.ifCond .lt 13, 3) := by decide +kernel
theorem dX1_has_4 : decode cX1_has 4 = .ok (.iload_n 1, 1) := by decide +kernel
theorem dX1_has_5 : decode cX1_has 5 = .ok (.bipush 6, 2) := by decide +kernel
theorem dX1_has_7 : decode cX1_has 7 = .ok (.if_icmp .ge 7, 3) := by decide +kernel
theorem dX1_has_10 : decode cX1_has 10 = .ok (.iconst 1, 1) := by decide +kernel
theorem dX1_has_11 : decode cX1_has 11 = .ok (.goto 4, 3) := by decide +kernel
theorem dX1_has_14 : decode cX1_has 14 = .ok (.iconst 0, 1) := by decide +kernel
theorem dX1_has_15 : decode cX1_has 15 = .ok (.ireturn, 1) := by decide +kernel
theorem dX1_riskOf_0 : decode cX1_riskOf 0 = .ok (.aload_n 0, 1) := by decide +kernel
theorem dX1_riskOf_1 : decode cX1_riskOf 1 = .ok (.iload_n 1, 1) := by decide +kernel
theorem dX1_riskOf_2 : decode cX1_riskOf 2 = .ok (.invokevirtual 21, 3) := by decide +kernel
theorem dX1_riskOf_5 : decode cX1_riskOf 5 = .ok (.ifCond .ne 7, 3) := by decide +kernel
theorem dX1_riskOf_8 : decode cX1_riskOf 8 = .ok (.invokestatic 25, 3) := by decide +kernel
theorem dX1_riskOf_11 : decode cX1_riskOf 11 = .ok (.freturn, 1) := by decide +kernel
theorem dX1_riskOf_12 : decode cX1_riskOf 12 = .ok (.aload_n 0, 1) := by decide +kernel
theorem dX1_riskOf_13 : decode cX1_riskOf 13 = .ok (.getfield 15, 3) := by decide +kernel
theorem dX1_riskOf_16 : decode cX1_riskOf 16 = .ok (.iload_n 1, 1) := by decide +kernel
theorem dX1_riskOf_17 : decode cX1_riskOf 17 = .ok (.iaload, 1) := by decide +kernel
theorem dX1_riskOf_18 : decode cX1_riskOf 18 = .ok (.iconst 1, 1) := by decide +kernel
theorem dX1_riskOf_19 : decode cX1_riskOf 19 = .ok (.iadd, 1) := by decide +kernel
theorem dX1_riskOf_20 : decode cX1_riskOf 20 = .ok (.i2f, 1) := by decide +kernel
theorem dX1_riskOf_21 : decode cX1_riskOf 21 = .ok (.aload_n 0, 1) := by decide +kernel
theorem dX1_riskOf_22 : decode cX1_riskOf 22 = .ok (.getfield 9, 3) := by decide +kernel
theorem dX1_riskOf_25 : decode cX1_riskOf 25 = .ok (.iload_n 1, 1) := by decide +kernel
theorem dX1_riskOf_26 : decode cX1_riskOf 26 = .ok (.iaload, 1) := by decide +kernel
theorem dX1_riskOf_27 : decode cX1_riskOf 27 = .ok (.aload_n 0, 1) := by decide +kernel
theorem dX1_riskOf_28 : decode cX1_riskOf 28 = .ok (.getfield 15, 3) := by decide +kernel
theorem dX1_riskOf_31 : decode cX1_riskOf 31 = .ok (.iload_n 1, 1) := by decide +kernel
theorem dX1_riskOf_32 : decode cX1_riskOf 32 = .ok (.iaload, 1) := by decide +kernel
theorem dX1_riskOf_33 : decode cX1_riskOf 33 = .ok (.iadd, 1) := by decide +kernel
theorem dX1_riskOf_34 : decode cX1_riskOf 34 = .ok (.iconst 2, 1) := by decide +kernel
theorem dX1_riskOf_35 : decode cX1_riskOf 35 = .ok (.iadd, 1) := by decide +kernel
theorem dX1_riskOf_36 : decode cX1_riskOf 36 = .ok (.i2f, 1) := by decide +kernel
theorem dX1_riskOf_37 : decode cX1_riskOf 37 = .ok (.fdiv, 1) := by decide +kernel
theorem dX1_riskOf_38 : decode cX1_riskOf 38 = .ok (.freturn, 1) := by decide +kernel
theorem dX1_addSettled_0 : decode cX1_addSettled 0 = .ok (.aload_n 0, 1) := by decide +kernel
theorem dX1_addSettled_1 : decode cX1_addSettled 1 = .ok (.iload_n 1, 1) := by decide +kernel
theorem dX1_addSettled_2 : decode cX1_addSettled 2 = .ok (.invokevirtual 21, 3) := by decide +kernel
theorem dX1_addSettled_5 : decode cX1_addSettled 5 = .ok (.ifCond .ne 4, 3) := by decide +kernel
theorem dX1_addSettled_8 : decode cX1_addSettled 8 = .ok (.return_, 1) := by decide +kernel
theorem dX1_addSettled_9 : decode cX1_addSettled 9 = .ok (.aload_n 0, 1) := by decide +kernel
theorem dX1_addSettled_10 : decode cX1_addSettled 10 = .ok (.getfield 9, 3) := by decide +kernel
theorem dX1_addSettled_13 : decode cX1_addSettled 13 = .ok (.iload_n 1, 1) := by decide +kernel
theorem dX1_addSettled_14 : decode cX1_addSettled 14 = .ok (.dup2, 1) := by decide +kernel
theorem dX1_addSettled_15 : decode cX1_addSettled 15 = .ok (.iaload, 1) := by decide +kernel
theorem dX1_addSettled_16 : decode cX1_addSettled 16 = .ok (.iconst 1, 1) := by decide +kernel
theorem dX1_addSettled_17 : decode cX1_addSettled 17 = .ok (.iadd, 1) := by decide +kernel
theorem dX1_addSettled_18 : decode cX1_addSettled 18 = .ok (.iastore, 1) := by decide +kernel
theorem dX1_addSettled_19 : decode cX1_addSettled 19 = .ok (.aload_n 0, 1) := by decide +kernel
theorem dX1_addSettled_20 : decode cX1_addSettled 20 = .ok (.getfield 18, 3) := by decide +kernel
theorem dX1_addSettled_23 : decode cX1_addSettled 23 = .ok (.iload_n 1, 1) := by decide +kernel
theorem dX1_addSettled_24 : decode cX1_addSettled 24 = .ok (.dup2, 1) := by decide +kernel
theorem dX1_addSettled_25 : decode cX1_addSettled 25 = .ok (.iaload, 1) := by decide +kernel
theorem dX1_addSettled_26 : decode cX1_addSettled 26 = .ok (.iload_n 2, 1) := by decide +kernel
theorem dX1_addSettled_27 : decode cX1_addSettled 27 = .ok (.iadd, 1) := by decide +kernel
theorem dX1_addSettled_28 : decode cX1_addSettled 28 = .ok (.iastore, 1) := by decide +kernel
theorem dX1_addSettled_29 : decode cX1_addSettled 29 = .ok (.return_, 1) := by decide +kernel
theorem dX1_addLost_0 : decode cX1_addLost 0 = .ok (.aload_n 0, 1) := by decide +kernel
theorem dX1_addLost_1 : decode cX1_addLost 1 = .ok (.iload_n 1, 1) := by decide +kernel
theorem dX1_addLost_2 : decode cX1_addLost 2 = .ok (.invokevirtual 21, 3) := by decide +kernel
theorem dX1_addLost_5 : decode cX1_addLost 5 = .ok (.ifCond .eq 13, 3) := by decide +kernel
theorem dX1_addLost_8 : decode cX1_addLost 8 = .ok (.aload_n 0, 1) := by decide +kernel
theorem dX1_addLost_9 : decode cX1_addLost 9 = .ok (.getfield 15, 3) := by decide +kernel
theorem dX1_addLost_12 : decode cX1_addLost 12 = .ok (.iload_n 1, 1) := by decide +kernel
theorem dX1_addLost_13 : decode cX1_addLost 13 = .ok (.dup2, 1) := by decide +kernel
theorem dX1_addLost_14 : decode cX1_addLost 14 = .ok (.iaload, 1) := by decide +kernel
theorem dX1_addLost_15 : decode cX1_addLost 15 = .ok (.iconst 1, 1) := by decide +kernel
theorem dX1_addLost_16 : decode cX1_addLost 16 = .ok (.iadd, 1) := by decide +kernel
theorem dX1_addLost_17 : decode cX1_addLost 17 = .ok (.iastore, 1) := by decide +kernel
theorem dX1_addLost_18 : decode cX1_addLost 18 = .ok (.return_, 1) := by decide +kernel
theorem dX1_copyFrom_0 : decode cX1_copyFrom 0 = .ok (.aload_n 1, 1) := by decide +kernel
theorem dX1_copyFrom_1 : decode cX1_copyFrom 1 = .ok (.getfield 9, 3) := by decide +kernel
theorem dX1_copyFrom_4 : decode cX1_copyFrom 4 = .ok (.aload_n 0, 1) := by decide +kernel
theorem dX1_copyFrom_5 : decode cX1_copyFrom 5 = .ok (.getfield 9, 3) := by decide +kernel
theorem dX1_copyFrom_8 : decode cX1_copyFrom 8 = .ok (.invokestatic 29, 3) := by decide +kernel
theorem dX1_copyFrom_11 : decode cX1_copyFrom 11 = .ok (.aload_n 1, 1) := by decide +kernel
theorem dX1_copyFrom_12 : decode cX1_copyFrom 12 = .ok (.getfield 15, 3) := by decide +kernel
theorem dX1_copyFrom_15 : decode cX1_copyFrom 15 = .ok (.aload_n 0, 1) := by decide +kernel
theorem dX1_copyFrom_16 : decode cX1_copyFrom 16 = .ok (.getfield 15, 3) := by decide +kernel
theorem dX1_copyFrom_19 : decode cX1_copyFrom 19 = .ok (.invokestatic 29, 3) := by decide +kernel
theorem dX1_copyFrom_22 : decode cX1_copyFrom 22 = .ok (.aload_n 1, 1) := by decide +kernel
theorem dX1_copyFrom_23 : decode cX1_copyFrom 23 = .ok (.getfield 18, 3) := by decide +kernel
theorem dX1_copyFrom_26 : decode cX1_copyFrom 26 = .ok (.aload_n 0, 1) := by decide +kernel
theorem dX1_copyFrom_27 : decode cX1_copyFrom 27 = .ok (.getfield 18, 3) := by decide +kernel
theorem dX1_copyFrom_30 : decode cX1_copyFrom 30 = .ok (.invokestatic 29, 3) := by decide +kernel
theorem dX1_copyFrom_33 : decode cX1_copyFrom 33 = .ok (.return_, 1) := by decide +kernel
theorem dX2_init_0 : decode cX2_init 0 = .ok (.aload_n 0, 1) := by decide +kernel
theorem dX2_init_1 : decode cX2_init 1 = .ok (.invokespecial 3, 3) := by decide +kernel
theorem dX2_init_4 : decode cX2_init 4 = .ok (.aload_n 0, 1) := by decide +kernel
theorem dX2_init_5 : decode cX2_init 5 = .ok (.iconst 4, 1) := by decide +kernel
theorem dX2_init_6 : decode cX2_init 6 = .ok (.anewarray 9, 3) := by decide +kernel
theorem dX2_init_9 : decode cX2_init 9 = .ok (.putfield 11, 3) := by decide +kernel
theorem dX2_init_12 : decode cX2_init 12 = .ok (.iconst 0, 1) := by decide +kernel
theorem dX2_init_13 : decode cX2_init 13 = .ok (.istore_n 1, 1) := by decide +kernel
theorem dX2_init_14 : decode cX2_init 14 = .ok (.iload_n 1, 1) := by decide +kernel
theorem dX2_init_15 : decode cX2_init 15 = .ok (.iconst 4, 1) := by decide +kernel
theorem dX2_init_16 : decode cX2_init 16 = .ok (.if_icmp .ge 22, 3) := by decide +kernel
theorem dX2_init_19 : decode cX2_init 19 = .ok (.aload_n 0, 1) := by decide +kernel
theorem dX2_init_20 : decode cX2_init 20 = .ok (.getfield 11, 3) := by decide +kernel
theorem dX2_init_23 : decode cX2_init 23 = .ok (.iload_n 1, 1) := by decide +kernel
theorem dX2_init_24 : decode cX2_init 24 = .ok (.new 9, 3) := by decide +kernel
theorem dX2_init_27 : decode cX2_init 27 = .ok (.dup, 1) := by decide +kernel
theorem dX2_init_28 : decode cX2_init 28 = .ok (.invokespecial 17, 3) := by decide +kernel
theorem dX2_init_31 : decode cX2_init 31 = .ok (.aastore, 1) := by decide +kernel
theorem dX2_init_32 : decode cX2_init 32 = .ok (.iinc 1 1, 3) := by decide +kernel
theorem dX2_init_35 : decode cX2_init 35 = .ok (.goto (-21), 3) := by decide +kernel
theorem dX2_init_38 : decode cX2_init 38 = .ok (.return_, 1) := by decide +kernel
theorem dX2_push_0 : decode cX2_push 0 = .ok (.aload_n 1, 1) := by decide +kernel
theorem dX2_push_1 : decode cX2_push 1 = .ok (.aload_n 0, 1) := by decide +kernel
theorem dX2_push_2 : decode cX2_push 2 = .ok (.aload_n 0, 1) := by decide +kernel
theorem dX2_push_3 : decode cX2_push 3 = .ok (.getfield 18, 3) := by decide +kernel
theorem dX2_push_6 : decode cX2_push 6 = .ok (.invokevirtual 22, 3) := by decide +kernel
theorem dX2_push_9 : decode cX2_push 9 = .ok (.invokestatic 26, 3) := by decide +kernel
theorem dX2_push_12 : decode cX2_push 12 = .ok (.aload_n 0, 1) := by decide +kernel
theorem dX2_push_13 : decode cX2_push 13 = .ok (.aload_n 0, 1) := by decide +kernel
theorem dX2_push_14 : decode cX2_push 14 = .ok (.getfield 18, 3) := by decide +kernel
theorem dX2_push_17 : decode cX2_push 17 = .ok (.iconst 1, 1) := by decide +kernel
theorem dX2_push_18 : decode cX2_push 18 = .ok (.iadd, 1) := by decide +kernel
theorem dX2_push_19 : decode cX2_push 19 = .ok (.iconst 4, 1) := by decide +kernel
theorem dX2_push_20 : decode cX2_push 20 = .ok (.if_icmp .ge 12, 3) := by decide +kernel
theorem dX2_push_23 : decode cX2_push 23 = .ok (.aload_n 0, 1) := by decide +kernel
theorem dX2_push_24 : decode cX2_push 24 = .ok (.getfield 18, 3) := by decide +kernel
theorem dX2_push_27 : decode cX2_push 27 = .ok (.iconst 1, 1) := by decide +kernel
theorem dX2_push_28 : decode cX2_push 28 = .ok (.iadd, 1) := by decide +kernel
theorem dX2_push_29 : decode cX2_push 29 = .ok (.goto 4, 3) := by decide +kernel
theorem dX2_push_32 : decode cX2_push 32 = .ok (.iconst 0, 1) := by decide +kernel
theorem dX2_push_33 : decode cX2_push 33 = .ok (.putfield 18, 3) := by decide +kernel
theorem dX2_push_36 : decode cX2_push 36 = .ok (.aload_n 0, 1) := by decide +kernel
theorem dX2_push_37 : decode cX2_push 37 = .ok (.getfield 30, 3) := by decide +kernel
theorem dX2_push_40 : decode cX2_push 40 = .ok (.iconst 4, 1) := by decide +kernel
theorem dX2_push_41 : decode cX2_push 41 = .ok (.if_icmp .ge 13, 3) := by decide +kernel
theorem dX2_push_44 : decode cX2_push 44 = .ok (.aload_n 0, 1) := by decide +kernel
theorem dX2_push_45 : decode cX2_push 45 = .ok (.dup, 1) := by decide +kernel
theorem dX2_push_46 : decode cX2_push 46 = .ok (.getfield 30, 3) := by decide +kernel
theorem dX2_push_49 : decode cX2_push 49 = .ok (.iconst 1, 1) := by decide +kernel
theorem dX2_push_50 : decode cX2_push 50 = .ok (.iadd, 1) := by decide +kernel
theorem dX2_push_51 : decode cX2_push 51 = .ok (.putfield 30, 3) := by decide +kernel
theorem dX2_push_54 : decode cX2_push 54 = .ok (.return_, 1) := by decide +kernel
theorem dX2_popInto_0 : decode cX2_popInto 0 = .ok (.aload_n 0, 1) := by decide +kernel
theorem dX2_popInto_1 : decode cX2_popInto 1 = .ok (.getfield 30, 3) := by decide +kernel
theorem dX2_popInto_4 : decode cX2_popInto 4 = .ok (.ifCond .ne 4, 3) := by decide +kernel
theorem dX2_popInto_7 : decode cX2_popInto 7 = .ok (.return_, 1) := by decide +kernel
theorem dX2_popInto_8 : decode cX2_popInto 8 = .ok (.aload_n 0, 1) := by decide +kernel
theorem dX2_popInto_9 : decode cX2_popInto 9 = .ok (.aload_n 0, 1) := by decide +kernel
theorem dX2_popInto_10 : decode cX2_popInto 10 = .ok (.getfield 18, 3) := by decide +kernel
theorem dX2_popInto_13 : decode cX2_popInto 13 = .ok (.ifCond .le 12, 3) := by decide +kernel
theorem dX2_popInto_16 : decode cX2_popInto 16 = .ok (.aload_n 0, 1) := by decide +kernel
theorem dX2_popInto_17 : decode cX2_popInto 17 = .ok (.getfield 18, 3) := by decide +kernel
theorem dX2_popInto_20 : decode cX2_popInto 20 = .ok (.iconst 1, 1) := by decide +kernel
theorem dX2_popInto_21 : decode cX2_popInto 21 = .ok (.isub, 1) := by decide +kernel
theorem dX2_popInto_22 : decode cX2_popInto 22 = .ok (.goto 4, 3) := by decide +kernel
theorem dX2_popInto_25 : decode cX2_popInto 25 = .ok (.iconst 3, 1) := by decide +kernel
theorem dX2_popInto_26 : decode cX2_popInto 26 = .ok (.putfield 18, 3) := by decide +kernel
theorem dX2_popInto_29 : decode cX2_popInto 29 = .ok (.aload_n 0, 1) := by decide +kernel
theorem dX2_popInto_30 : decode cX2_popInto 30 = .ok (.dup, 1) := by decide +kernel
theorem dX2_popInto_31 : decode cX2_popInto 31 = .ok (.getfield 30, 3) := by decide +kernel
theorem dX2_popInto_34 : decode cX2_popInto 34 = .ok (.iconst 1, 1) := by decide +kernel
theorem dX2_popInto_35 : decode cX2_popInto 35 = .ok (.isub, 1) := by decide +kernel
theorem dX2_popInto_36 : decode cX2_popInto 36 = .ok (.putfield 30, 3) := by decide +kernel
theorem dX2_popInto_39 : decode cX2_popInto 39 = .ok (.aload_n 0, 1) := by decide +kernel
theorem dX2_popInto_40 : decode cX2_popInto 40 = .ok (.aload_n 0, 1) := by decide +kernel
theorem dX2_popInto_41 : decode cX2_popInto 41 = .ok (.getfield 18, 3) := by decide +kernel
theorem dX2_popInto_44 : decode cX2_popInto 44 = .ok (.invokevirtual 22, 3) := by decide +kernel
theorem dX2_popInto_47 : decode cX2_popInto 47 = .ok (.aload_n 1, 1) := by decide +kernel
theorem dX2_popInto_48 : decode cX2_popInto 48 = .ok (.invokestatic 26, 3) := by decide +kernel
theorem dX2_popInto_51 : decode cX2_popInto 51 = .ok (.return_, 1) := by decide +kernel
theorem dX2_stateAt_0 : decode cX2_stateAt 0 = .ok (.iload_n 1, 1) := by decide +kernel
theorem dX2_stateAt_1 : decode cX2_stateAt 1 = .ok (.ifCond .lt 8, 3) := by decide +kernel
theorem dX2_stateAt_4 : decode cX2_stateAt 4 = .ok (.iload_n 1, 1) := by decide +kernel
theorem dX2_stateAt_5 : decode cX2_stateAt 5 = .ok (.iconst 4, 1) := by decide +kernel
theorem dX2_stateAt_6 : decode cX2_stateAt 6 = .ok (.if_icmp .lt 7, 3) := by decide +kernel
theorem dX2_stateAt_9 : decode cX2_stateAt 9 = .ok (.aconst_null, 1) := by decide +kernel
theorem dX2_stateAt_10 : decode cX2_stateAt 10 = .ok (.goto 9, 3) := by decide +kernel
theorem dX2_stateAt_13 : decode cX2_stateAt 13 = .ok (.aload_n 0, 1) := by decide +kernel
theorem dX2_stateAt_14 : decode cX2_stateAt 14 = .ok (.getfield 11, 3) := by decide +kernel
theorem dX2_stateAt_17 : decode cX2_stateAt 17 = .ok (.iload_n 1, 1) := by decide +kernel
theorem dX2_stateAt_18 : decode cX2_stateAt 18 = .ok (.aaload, 1) := by decide +kernel
theorem dX2_stateAt_19 : decode cX2_stateAt 19 = .ok (.areturn, 1) := by decide +kernel
theorem dX2_copy_0 : decode cX2_copy 0 = .ok (.aload_n 0, 1) := by decide +kernel
theorem dX2_copy_1 : decode cX2_copy 1 = .ok (.ifnull 12, 3) := by decide +kernel
theorem dX2_copy_4 : decode cX2_copy 4 = .ok (.aload_n 1, 1) := by decide +kernel
theorem dX2_copy_5 : decode cX2_copy 5 = .ok (.ifnull 8, 3) := by decide +kernel
theorem dX2_copy_8 : decode cX2_copy 8 = .ok (.aload_n 1, 1) := by decide +kernel
theorem dX2_copy_9 : decode cX2_copy 9 = .ok (.aload_n 0, 1) := by decide +kernel
theorem dX2_copy_10 : decode cX2_copy 10 = .ok (.invokevirtual 33, 3) := by decide +kernel
theorem dX2_copy_13 : decode cX2_copy 13 = .ok (.return_, 1) := by decide +kernel
theorem dX3_init_0 : decode cX3_init 0 = .ok (.aload_n 0, 1) := by decide +kernel
theorem dX3_init_1 : decode cX3_init 1 = .ok (.invokespecial 3, 3) := by decide +kernel
theorem dX3_init_4 : decode cX3_init 4 = .ok (.aload_n 0, 1) := by decide +kernel
theorem dX3_init_5 : decode cX3_init 5 = .ok (.bipush 20, 2) := by decide +kernel
theorem dX3_init_7 : decode cX3_init 7 = .ok (.newarray .int, 2) := by decide +kernel
theorem dX3_init_9 : decode cX3_init 9 = .ok (.putfield 9, 3) := by decide +kernel
theorem dX3_init_12 : decode cX3_init 12 = .ok (.aload_n 0, 1) := by decide +kernel
theorem dX3_init_13 : decode cX3_init 13 = .ok (.bipush 20, 2) := by decide +kernel
theorem dX3_init_15 : decode cX3_init 15 = .ok (.newarray .int, 2) := by decide +kernel
theorem dX3_init_17 : decode cX3_init 17 = .ok (.putfield 15, 3) := by decide +kernel
theorem dX3_init_20 : decode cX3_init 20 = .ok (.aload_n 0, 1) := by decide +kernel
theorem dX3_init_21 : decode cX3_init 21 = .ok (.bipush 20, 2) := by decide +kernel
theorem dX3_init_23 : decode cX3_init 23 = .ok (.newarray .int, 2) := by decide +kernel
theorem dX3_init_25 : decode cX3_init 25 = .ok (.putfield 18, 3) := by decide +kernel
theorem dX3_init_28 : decode cX3_init 28 = .ok (.aload_n 0, 1) := by decide +kernel
theorem dX3_init_29 : decode cX3_init 29 = .ok (.bipush 20, 2) := by decide +kernel
theorem dX3_init_31 : decode cX3_init 31 = .ok (.newarray .int, 2) := by decide +kernel
theorem dX3_init_33 : decode cX3_init 33 = .ok (.putfield 21, 3) := by decide +kernel
theorem dX3_init_36 : decode cX3_init 36 = .ok (.aload_n 0, 1) := by decide +kernel
theorem dX3_init_37 : decode cX3_init 37 = .ok (.bipush 20, 2) := by decide +kernel
theorem dX3_init_39 : decode cX3_init 39 = .ok (.newarray .int, 2) := by decide +kernel
theorem dX3_init_41 : decode cX3_init 41 = .ok (.putfield 24, 3) := by decide +kernel
theorem dX3_init_44 : decode cX3_init 44 = .ok (.aload_n 0, 1) := by decide +kernel
theorem dX3_init_45 : decode cX3_init 45 = .ok (.bipush 20, 2) := by decide +kernel
theorem dX3_init_47 : decode cX3_init 47 = .ok (.newarray .int, 2) := by decide +kernel
theorem dX3_init_49 : decode cX3_init 49 = .ok (.putfield 27, 3) := by decide +kernel
theorem dX3_init_52 : decode cX3_init 52 = .ok (.aload_n 0, 1) := by decide +kernel
theorem dX3_init_53 : decode cX3_init 53 = .ok (.bipush 20, 2) := by decide +kernel
theorem dX3_init_55 : decode cX3_init 55 = .ok (.newarray .int, 2) := by decide +kernel
theorem dX3_init_57 : decode cX3_init 57 = .ok (.putfield 30, 3) := by decide +kernel
theorem dX3_init_60 : decode cX3_init 60 = .ok (.return_, 1) := by decide +kernel
theorem dX3_has_0 : decode cX3_has 0 = .ok (.iload_n 1, 1) := by decide +kernel
theorem dX3_has_1 : decode cX3_has 1 = .ok (.ifCond .lt 21, 3) := by decide +kernel
theorem dX3_has_4 : decode cX3_has 4 = .ok (.iload_n 1, 1) := by decide +kernel
theorem dX3_has_5 : decode cX3_has 5 = .ok (.aload_n 0, 1) := by decide +kernel
theorem dX3_has_6 : decode cX3_has 6 = .ok (.getfield 33, 3) := by decide +kernel
theorem dX3_has_9 : decode cX3_has 9 = .ok (.if_icmp .ge 13, 3) := by decide +kernel
theorem dX3_has_12 : decode cX3_has 12 = .ok (.iload_n 1, 1) := by decide +kernel
theorem dX3_has_13 : decode cX3_has 13 = .ok (.bipush 20, 2) := by decide +kernel
theorem dX3_has_15 : decode cX3_has 15 = .ok (.if_icmp .ge 7, 3) := by decide +kernel
theorem dX3_has_18 : decode cX3_has 18 = .ok (.iconst 1, 1) := by decide +kernel
theorem dX3_has_19 : decode cX3_has 19 = .ok (.goto 4, 3) := by decide +kernel
theorem dX3_has_22 : decode cX3_has 22 = .ok (.iconst 0, 1) := by decide +kernel
theorem dX3_has_23 : decode cX3_has 23 = .ok (.ireturn, 1) := by decide +kernel
theorem dX3_append_0 : decode cX3_append 0 = .ok (.aload_n 0, 1) := by decide +kernel
theorem dX3_append_1 : decode cX3_append 1 = .ok (.getfield 33, 3) := by decide +kernel
theorem dX3_append_4 : decode cX3_append 4 = .ok (.ifCond .lt 12, 3) := by decide +kernel
theorem dX3_append_7 : decode cX3_append 7 = .ok (.aload_n 0, 1) := by decide +kernel
theorem dX3_append_8 : decode cX3_append 8 = .ok (.getfield 33, 3) := by decide +kernel
theorem dX3_append_11 : decode cX3_append 11 = .ok (.bipush 20, 2) := by decide +kernel
theorem dX3_append_13 : decode cX3_append 13 = .ok (.if_icmp .lt 6, 3) := by decide +kernel
theorem dX3_append_16 : decode cX3_append 16 = .ok (.bipush (-3), 2) := by decide +kernel
theorem dX3_append_18 : decode cX3_append 18 = .ok (.ireturn, 1) := by decide +kernel
theorem dX3_append_19 : decode cX3_append 19 = .ok (.aload_n 0, 1) := by decide +kernel
theorem dX3_append_20 : decode cX3_append 20 = .ok (.getfield 9, 3) := by decide +kernel
theorem dX3_append_23 : decode cX3_append 23 = .ok (.aload_n 0, 1) := by decide +kernel
theorem dX3_append_24 : decode cX3_append 24 = .ok (.getfield 33, 3) := by decide +kernel
theorem dX3_append_27 : decode cX3_append 27 = .ok (.iload_n 1, 1) := by decide +kernel
theorem dX3_append_28 : decode cX3_append 28 = .ok (.iastore, 1) := by decide +kernel
theorem dX3_append_29 : decode cX3_append 29 = .ok (.aload_n 0, 1) := by decide +kernel
theorem dX3_append_30 : decode cX3_append 30 = .ok (.getfield 15, 3) := by decide +kernel
theorem dX3_append_33 : decode cX3_append 33 = .ok (.aload_n 0, 1) := by decide +kernel
theorem dX3_append_34 : decode cX3_append 34 = .ok (.getfield 33, 3) := by decide +kernel
theorem dX3_append_37 : decode cX3_append 37 = .ok (.iload_n 2, 1) := by decide +kernel
theorem dX3_append_38 : decode cX3_append 38 = .ok (.iastore, 1) := by decide +kernel
theorem dX3_append_39 : decode cX3_append 39 = .ok (.aload_n 0, 1) := by decide +kernel
theorem dX3_append_40 : decode cX3_append 40 = .ok (.getfield 18, 3) := by decide +kernel
theorem dX3_append_43 : decode cX3_append 43 = .ok (.aload_n 0, 1) := by decide +kernel
theorem dX3_append_44 : decode cX3_append 44 = .ok (.getfield 33, 3) := by decide +kernel
theorem dX3_append_47 : decode cX3_append 47 = .ok (.iload_n 3, 1) := by decide +kernel
theorem dX3_append_48 : decode cX3_append 48 = .ok (.iastore, 1) := by decide +kernel
theorem dX3_append_49 : decode cX3_append 49 = .ok (.aload_n 0, 1) := by decide +kernel
theorem dX3_append_50 : decode cX3_append 50 = .ok (.getfield 21, 3) := by decide +kernel
theorem dX3_append_53 : decode cX3_append 53 = .ok (.aload_n 0, 1) := by decide +kernel
theorem dX3_append_54 : decode cX3_append 54 = .ok (.getfield 33, 3) := by decide +kernel
theorem dX3_append_57 : decode cX3_append 57 = .ok (.iload 4, 2) := by decide +kernel
theorem dX3_append_59 : decode cX3_append 59 = .ok (.iastore, 1) := by decide +kernel
theorem dX3_append_60 : decode cX3_append 60 = .ok (.aload_n 0, 1) := by decide +kernel
theorem dX3_append_61 : decode cX3_append 61 = .ok (.getfield 24, 3) := by decide +kernel
theorem dX3_append_64 : decode cX3_append 64 = .ok (.aload_n 0, 1) := by decide +kernel
theorem dX3_append_65 : decode cX3_append 65 = .ok (.getfield 33, 3) := by decide +kernel
theorem dX3_append_68 : decode cX3_append 68 = .ok (.iconst 0, 1) := by decide +kernel
theorem dX3_append_69 : decode cX3_append 69 = .ok (.iastore, 1) := by decide +kernel
theorem dX3_append_70 : decode cX3_append 70 = .ok (.aload_n 0, 1) := by decide +kernel
theorem dX3_append_71 : decode cX3_append 71 = .ok (.getfield 27, 3) := by decide +kernel
theorem dX3_append_74 : decode cX3_append 74 = .ok (.aload_n 0, 1) := by decide +kernel
theorem dX3_append_75 : decode cX3_append 75 = .ok (.getfield 33, 3) := by decide +kernel
theorem dX3_append_78 : decode cX3_append 78 = .ok (.iconst 0, 1) := by decide +kernel
theorem dX3_append_79 : decode cX3_append 79 = .ok (.iastore, 1) := by decide +kernel
theorem dX3_append_80 : decode cX3_append 80 = .ok (.aload_n 0, 1) := by decide +kernel
theorem dX3_append_81 : decode cX3_append 81 = .ok (.getfield 30, 3) := by decide +kernel
theorem dX3_append_84 : decode cX3_append 84 = .ok (.aload_n 0, 1) := by decide +kernel
theorem dX3_append_85 : decode cX3_append 85 = .ok (.getfield 33, 3) := by decide +kernel
theorem dX3_append_88 : decode cX3_append 88 = .ok (.iconst 0, 1) := by decide +kernel
theorem dX3_append_89 : decode cX3_append 89 = .ok (.iastore, 1) := by decide +kernel
theorem dX3_append_90 : decode cX3_append 90 = .ok (.aload_n 0, 1) := by decide +kernel
theorem dX3_append_91 : decode cX3_append 91 = .ok (.dup, 1) := by decide +kernel
theorem dX3_append_92 : decode cX3_append 92 = .ok (.getfield 33, 3) := by decide +kernel
theorem dX3_append_95 : decode cX3_append 95 = .ok (.iconst 1, 1) := by decide +kernel
theorem dX3_append_96 : decode cX3_append 96 = .ok (.iadd, 1) := by decide +kernel
theorem dX3_append_97 : decode cX3_append 97 = .ok (.putfield 33, 3) := by decide +kernel
theorem dX3_append_100 : decode cX3_append 100 = .ok (.aload_n 0, 1) := by decide +kernel
theorem dX3_append_101 : decode cX3_append 101 = .ok (.getfield 33, 3) := by decide +kernel
theorem dX3_append_104 : decode cX3_append 104 = .ok (.iconst 1, 1) := by decide +kernel
theorem dX3_append_105 : decode cX3_append 105 = .ok (.isub, 1) := by decide +kernel
theorem dX3_append_106 : decode cX3_append 106 = .ok (.ireturn, 1) := by decide +kernel
theorem dX3_isUnsettled_0 : decode cX3_isUnsettled 0 = .ok (.aload_n 0, 1) := by decide +kernel
theorem dX3_isUnsettled_1 : decode cX3_isUnsettled 1 = .ok (.iload_n 1, 1) := by decide +kernel
theorem dX3_isUnsettled_2 : decode cX3_isUnsettled 2 = .ok (.invokevirtual 37, 3) := by decide +kernel
theorem dX3_isUnsettled_5 : decode cX3_isUnsettled 5 = .ok (.ifCond .eq 26, 3) := by decide +kernel
theorem dX3_isUnsettled_8 : decode cX3_isUnsettled 8 = .ok (.aload_n 0, 1) := by decide +kernel
theorem dX3_isUnsettled_9 : decode cX3_isUnsettled 9 = .ok (.getfield 24, 3) := by decide +kernel
theorem dX3_isUnsettled_12 : decode cX3_isUnsettled 12 = .ok (.iload_n 1, 1) := by decide +kernel
theorem dX3_isUnsettled_13 : decode cX3_isUnsettled 13 = .ok (.iaload, 1) := by decide +kernel
theorem dX3_isUnsettled_14 : decode cX3_isUnsettled 14 = .ok (.ifCond .eq 13, 3) := by decide +kernel
theorem dX3_isUnsettled_17 : decode cX3_isUnsettled 17 = .ok (.aload_n 0, 1) := by decide +kernel
theorem dX3_isUnsettled_18 : decode cX3_isUnsettled 18 = .ok (.getfield 24, 3) := by decide +kernel
theorem dX3_isUnsettled_21 : decode cX3_isUnsettled 21 = .ok (.iload_n 1, 1) := by decide +kernel
theorem dX3_isUnsettled_22 : decode cX3_isUnsettled 22 = .ok (.iaload, 1) := by decide +kernel
theorem dX3_isUnsettled_23 : decode cX3_isUnsettled 23 = .ok (.iconst 1, 1) := by decide +kernel
theorem dX3_isUnsettled_24 : decode cX3_isUnsettled 24 = .ok (.if_icmp .ne 7, 3) := by decide +kernel
theorem dX3_isUnsettled_27 : decode cX3_isUnsettled 27 = .ok (.iconst 1, 1) := by decide +kernel
theorem dX3_isUnsettled_28 : decode cX3_isUnsettled 28 = .ok (.goto 4, 3) := by decide +kernel
theorem dX3_isUnsettled_31 : decode cX3_isUnsettled 31 = .ok (.iconst 0, 1) := by decide +kernel
theorem dX3_isUnsettled_32 : decode cX3_isUnsettled 32 = .ok (.ireturn, 1) := by decide +kernel
theorem dX3_countOfMember_0 : decode cX3_countOfMember 0 = .ok (.iconst 0, 1) := by decide +kernel
theorem dX3_countOfMember_1 : decode cX3_countOfMember 1 = .ok (.istore_n 2, 1) := by decide +kernel
theorem dX3_countOfMember_2 : decode cX3_countOfMember 2 = .ok (.iconst 0, 1) := by decide +kernel
theorem dX3_countOfMember_3 : decode cX3_countOfMember 3 = .ok (.istore_n 3, 1) := by decide +kernel
theorem dX3_countOfMember_4 : decode cX3_countOfMember 4 = .ok (.iload_n 3, 1) := by decide +kernel
theorem dX3_countOfMember_5 : decode cX3_countOfMember 5 = .ok (.bipush 20, 2) := by decide +kernel
theorem dX3_countOfMember_7 : decode cX3_countOfMember 7 = .ok (.if_icmp .ge 30, 3) := by decide +kernel
theorem dX3_countOfMember_10 : decode cX3_countOfMember 10 = .ok (.aload_n 0, 1) := by decide +kernel
theorem dX3_countOfMember_11 : decode cX3_countOfMember 11 = .ok (.iload_n 3, 1) := by decide +kernel
theorem dX3_countOfMember_12 : decode cX3_countOfMember 12 = .ok (.invokevirtual 37, 3) := by decide +kernel
theorem dX3_countOfMember_15 : decode cX3_countOfMember 15 = .ok (.ifCond .eq 16, 3) := by decide +kernel
theorem dX3_countOfMember_18 : decode cX3_countOfMember 18 = .ok (.aload_n 0, 1) := by decide +kernel
theorem dX3_countOfMember_19 : decode cX3_countOfMember 19 = .ok (.getfield 9, 3) := by decide +kernel
theorem dX3_countOfMember_22 : decode cX3_countOfMember 22 = .ok (.iload_n 3, 1) := by decide +kernel
theorem dX3_countOfMember_23 : decode cX3_countOfMember 23 = .ok (.iaload, 1) := by decide +kernel
theorem dX3_countOfMember_24 : decode cX3_countOfMember 24 = .ok (.iload_n 1, 1) := by decide +kernel
theorem dX3_countOfMember_25 : decode cX3_countOfMember 25 = .ok (.if_icmp .ne 6, 3) := by decide +kernel
theorem dX3_countOfMember_28 : decode cX3_countOfMember 28 = .ok (.iinc 2 1, 3) := by decide +kernel
theorem dX3_countOfMember_31 : decode cX3_countOfMember 31 = .ok (.iinc 3 1, 3) := by decide +kernel
theorem dX3_countOfMember_34 : decode cX3_countOfMember 34 = .ok (.goto (-30), 3) := by decide +kernel
theorem dX3_countOfMember_37 : decode cX3_countOfMember 37 = .ok (.iload_n 2, 1) := by decide +kernel
theorem dX3_countOfMember_38 : decode cX3_countOfMember 38 = .ok (.ireturn, 1) := by decide +kernel
theorem dX3_countOfMemberAhead_0 : decode cX3_countOfMemberAhead 0 = .ok (.iconst 0, 1) := by decide +kernel
theorem dX3_countOfMemberAhead_1 : decode cX3_countOfMemberAhead 1 = .ok (.istore_n 2, 1) := by decide +kernel
theorem dX3_countOfMemberAhead_2 : decode cX3_countOfMemberAhead 2 = .ok (.iconst 0, 1) := by decide +kernel
theorem dX3_countOfMemberAhead_3 : decode cX3_countOfMemberAhead 3 = .ok (.istore_n 3, 1) := by decide +kernel
theorem dX3_countOfMemberAhead_4 : decode cX3_countOfMemberAhead 4 = .ok (.iload_n 3, 1) := by decide +kernel
theorem dX3_countOfMemberAhead_5 : decode cX3_countOfMemberAhead 5 = .ok (.bipush 20, 2) := by decide +kernel
theorem dX3_countOfMemberAhead_7 : decode cX3_countOfMemberAhead 7 = .ok (.if_icmp .ge 40, 3) := by decide +kernel
theorem dX3_countOfMemberAhead_10 : decode cX3_countOfMemberAhead 10 = .ok (.aload_n 0, 1) := by decide +kernel
theorem dX3_countOfMemberAhead_11 : decode cX3_countOfMemberAhead 11 = .ok (.iload_n 3, 1) := by decide +kernel
theorem dX3_countOfMemberAhead_12 : decode cX3_countOfMemberAhead 12 = .ok (.invokevirtual 37, 3) := by decide +kernel
theorem dX3_countOfMemberAhead_15 : decode cX3_countOfMemberAhead 15 = .ok (.ifCond .eq 26, 3) := by decide +kernel
theorem dX3_countOfMemberAhead_18 : decode cX3_countOfMemberAhead 18 = .ok (.aload_n 0, 1) := by decide +kernel
theorem dX3_countOfMemberAhead_19 : decode cX3_countOfMemberAhead 19 = .ok (.getfield 9, 3) := by decide +kernel
theorem dX3_countOfMemberAhead_22 : decode cX3_countOfMemberAhead 22 = .ok (.iload_n 3, 1) := by decide +kernel
theorem dX3_countOfMemberAhead_23 : decode cX3_countOfMemberAhead 23 = .ok (.iaload, 1) := by decide +kernel
theorem dX3_countOfMemberAhead_24 : decode cX3_countOfMemberAhead 24 = .ok (.iload_n 1, 1) := by decide +kernel
theorem dX3_countOfMemberAhead_25 : decode cX3_countOfMemberAhead 25 = .ok (.if_icmp .ne 16, 3) := by decide +kernel
theorem dX3_countOfMemberAhead_28 : decode cX3_countOfMemberAhead 28 = .ok (.aload_n 0, 1) := by decide +kernel
theorem dX3_countOfMemberAhead_29 : decode cX3_countOfMemberAhead 29 = .ok (.getfield 24, 3) := by decide +kernel
theorem dX3_countOfMemberAhead_32 : decode cX3_countOfMemberAhead 32 = .ok (.iload_n 3, 1) := by decide +kernel
theorem dX3_countOfMemberAhead_33 : decode cX3_countOfMemberAhead 33 = .ok (.iaload, 1) := by decide +kernel
theorem dX3_countOfMemberAhead_34 : decode cX3_countOfMemberAhead 34 = .ok (.iconst 1, 1) := by decide +kernel
theorem dX3_countOfMemberAhead_35 : decode cX3_countOfMemberAhead 35 = .ok (.if_icmp .ne 6, 3) := by decide +kernel
theorem dX3_countOfMemberAhead_38 : decode cX3_countOfMemberAhead 38 = .ok (.iinc 2 1, 3) := by decide +kernel
theorem dX3_countOfMemberAhead_41 : decode cX3_countOfMemberAhead 41 = .ok (.iinc 3 1, 3) := by decide +kernel
theorem dX3_countOfMemberAhead_44 : decode cX3_countOfMemberAhead 44 = .ok (.goto (-40), 3) := by decide +kernel
theorem dX3_countOfMemberAhead_47 : decode cX3_countOfMemberAhead 47 = .ok (.iload_n 2, 1) := by decide +kernel
theorem dX3_countOfMemberAhead_48 : decode cX3_countOfMemberAhead 48 = .ok (.ireturn, 1) := by decide +kernel
theorem dX3_countOfClientUnsettled_0 : decode cX3_countOfClientUnsettled 0 = .ok (.iconst 0, 1) := by decide +kernel
theorem dX3_countOfClientUnsettled_1 : decode cX3_countOfClientUnsettled 1 = .ok (.istore_n 2, 1) := by decide +kernel
theorem dX3_countOfClientUnsettled_2 : decode cX3_countOfClientUnsettled 2 = .ok (.iconst 0, 1) := by decide +kernel
theorem dX3_countOfClientUnsettled_3 : decode cX3_countOfClientUnsettled 3 = .ok (.istore_n 3, 1) := by decide +kernel
theorem dX3_countOfClientUnsettled_4 : decode cX3_countOfClientUnsettled 4 = .ok (.iload_n 3, 1) := by decide +kernel
theorem dX3_countOfClientUnsettled_5 : decode cX3_countOfClientUnsettled 5 = .ok (.bipush 20, 2) := by decide +kernel
theorem dX3_countOfClientUnsettled_7 : decode cX3_countOfClientUnsettled 7 = .ok (.if_icmp .ge 30, 3) := by decide +kernel
theorem dX3_countOfClientUnsettled_10 : decode cX3_countOfClientUnsettled 10 = .ok (.aload_n 0, 1) := by decide +kernel
theorem dX3_countOfClientUnsettled_11 : decode cX3_countOfClientUnsettled 11 = .ok (.iload_n 3, 1) := by decide +kernel
theorem dX3_countOfClientUnsettled_12 : decode cX3_countOfClientUnsettled 12 = .ok (.invokevirtual 41, 3) := by decide +kernel
theorem dX3_countOfClientUnsettled_15 : decode cX3_countOfClientUnsettled 15 = .ok (.ifCond .eq 16, 3) := by decide +kernel
theorem dX3_countOfClientUnsettled_18 : decode cX3_countOfClientUnsettled 18 = .ok (.aload_n 0, 1) := by decide +kernel
theorem dX3_countOfClientUnsettled_19 : decode cX3_countOfClientUnsettled 19 = .ok (.getfield 15, 3) := by decide +kernel
theorem dX3_countOfClientUnsettled_22 : decode cX3_countOfClientUnsettled 22 = .ok (.iload_n 3, 1) := by decide +kernel
theorem dX3_countOfClientUnsettled_23 : decode cX3_countOfClientUnsettled 23 = .ok (.iaload, 1) := by decide +kernel
theorem dX3_countOfClientUnsettled_24 : decode cX3_countOfClientUnsettled 24 = .ok (.iload_n 1, 1) := by decide +kernel
theorem dX3_countOfClientUnsettled_25 : decode cX3_countOfClientUnsettled 25 = .ok (.if_icmp .ne 6, 3) := by decide +kernel
theorem dX3_countOfClientUnsettled_28 : decode cX3_countOfClientUnsettled 28 = .ok (.iinc 2 1, 3) := by decide +kernel
theorem dX3_countOfClientUnsettled_31 : decode cX3_countOfClientUnsettled 31 = .ok (.iinc 3 1, 3) := by decide +kernel
theorem dX3_countOfClientUnsettled_34 : decode cX3_countOfClientUnsettled 34 = .ok (.goto (-30), 3) := by decide +kernel
theorem dX3_countOfClientUnsettled_37 : decode cX3_countOfClientUnsettled 37 = .ok (.iload_n 2, 1) := by decide +kernel
theorem dX3_countOfClientUnsettled_38 : decode cX3_countOfClientUnsettled 38 = .ok (.ireturn, 1) := by decide +kernel
theorem dX3_countOfState_0 : decode cX3_countOfState 0 = .ok (.iconst 0, 1) := by decide +kernel
theorem dX3_countOfState_1 : decode cX3_countOfState 1 = .ok (.istore_n 2, 1) := by decide +kernel
theorem dX3_countOfState_2 : decode cX3_countOfState 2 = .ok (.iconst 0, 1) := by decide +kernel
theorem dX3_countOfState_3 : decode cX3_countOfState 3 = .ok (.istore_n 3, 1) := by decide +kernel
theorem dX3_countOfState_4 : decode cX3_countOfState 4 = .ok (.iload_n 3, 1) := by decide +kernel
theorem dX3_countOfState_5 : decode cX3_countOfState 5 = .ok (.bipush 20, 2) := by decide +kernel
theorem dX3_countOfState_7 : decode cX3_countOfState 7 = .ok (.if_icmp .ge 30, 3) := by decide +kernel
theorem dX3_countOfState_10 : decode cX3_countOfState 10 = .ok (.aload_n 0, 1) := by decide +kernel
theorem dX3_countOfState_11 : decode cX3_countOfState 11 = .ok (.iload_n 3, 1) := by decide +kernel
theorem dX3_countOfState_12 : decode cX3_countOfState 12 = .ok (.invokevirtual 37, 3) := by decide +kernel
theorem dX3_countOfState_15 : decode cX3_countOfState 15 = .ok (.ifCond .eq 16, 3) := by decide +kernel
theorem dX3_countOfState_18 : decode cX3_countOfState 18 = .ok (.aload_n 0, 1) := by decide +kernel
theorem dX3_countOfState_19 : decode cX3_countOfState 19 = .ok (.getfield 24, 3) := by decide +kernel
theorem dX3_countOfState_22 : decode cX3_countOfState 22 = .ok (.iload_n 3, 1) := by decide +kernel
theorem dX3_countOfState_23 : decode cX3_countOfState 23 = .ok (.iaload, 1) := by decide +kernel
theorem dX3_countOfState_24 : decode cX3_countOfState 24 = .ok (.iload_n 1, 1) := by decide +kernel
theorem dX3_countOfState_25 : decode cX3_countOfState 25 = .ok (.if_icmp .ne 6, 3) := by decide +kernel
theorem dX3_countOfState_28 : decode cX3_countOfState 28 = .ok (.iinc 2 1, 3) := by decide +kernel
theorem dX3_countOfState_31 : decode cX3_countOfState 31 = .ok (.iinc 3 1, 3) := by decide +kernel
theorem dX3_countOfState_34 : decode cX3_countOfState 34 = .ok (.goto (-30), 3) := by decide +kernel
theorem dX3_countOfState_37 : decode cX3_countOfState 37 = .ok (.iload_n 2, 1) := by decide +kernel
theorem dX3_countOfState_38 : decode cX3_countOfState 38 = .ok (.ireturn, 1) := by decide +kernel
theorem dX3_copyFrom_0 : decode cX3_copyFrom 0 = .ok (.aload_n 1, 1) := by decide +kernel
theorem dX3_copyFrom_1 : decode cX3_copyFrom 1 = .ok (.getfield 9, 3) := by decide +kernel
theorem dX3_copyFrom_4 : decode cX3_copyFrom 4 = .ok (.aload_n 0, 1) := by decide +kernel
theorem dX3_copyFrom_5 : decode cX3_copyFrom 5 = .ok (.getfield 9, 3) := by decide +kernel
theorem dX3_copyFrom_8 : decode cX3_copyFrom 8 = .ok (.invokestatic 44, 3) := by decide +kernel
theorem dX3_copyFrom_11 : decode cX3_copyFrom 11 = .ok (.aload_n 1, 1) := by decide +kernel
theorem dX3_copyFrom_12 : decode cX3_copyFrom 12 = .ok (.getfield 15, 3) := by decide +kernel
theorem dX3_copyFrom_15 : decode cX3_copyFrom 15 = .ok (.aload_n 0, 1) := by decide +kernel
theorem dX3_copyFrom_16 : decode cX3_copyFrom 16 = .ok (.getfield 15, 3) := by decide +kernel
theorem dX3_copyFrom_19 : decode cX3_copyFrom 19 = .ok (.invokestatic 44, 3) := by decide +kernel
theorem dX3_copyFrom_22 : decode cX3_copyFrom 22 = .ok (.aload_n 1, 1) := by decide +kernel
theorem dX3_copyFrom_23 : decode cX3_copyFrom 23 = .ok (.getfield 18, 3) := by decide +kernel
theorem dX3_copyFrom_26 : decode cX3_copyFrom 26 = .ok (.aload_n 0, 1) := by decide +kernel
theorem dX3_copyFrom_27 : decode cX3_copyFrom 27 = .ok (.getfield 18, 3) := by decide +kernel
theorem dX3_copyFrom_30 : decode cX3_copyFrom 30 = .ok (.invokestatic 44, 3) := by decide +kernel
theorem dX3_copyFrom_33 : decode cX3_copyFrom 33 = .ok (.aload_n 1, 1) := by decide +kernel
theorem dX3_copyFrom_34 : decode cX3_copyFrom 34 = .ok (.getfield 21, 3) := by decide +kernel
theorem dX3_copyFrom_37 : decode cX3_copyFrom 37 = .ok (.aload_n 0, 1) := by decide +kernel
theorem dX3_copyFrom_38 : decode cX3_copyFrom 38 = .ok (.getfield 21, 3) := by decide +kernel
theorem dX3_copyFrom_41 : decode cX3_copyFrom 41 = .ok (.invokestatic 44, 3) := by decide +kernel
theorem dX3_copyFrom_44 : decode cX3_copyFrom 44 = .ok (.aload_n 1, 1) := by decide +kernel
theorem dX3_copyFrom_45 : decode cX3_copyFrom 45 = .ok (.getfield 24, 3) := by decide +kernel
theorem dX3_copyFrom_48 : decode cX3_copyFrom 48 = .ok (.aload_n 0, 1) := by decide +kernel
theorem dX3_copyFrom_49 : decode cX3_copyFrom 49 = .ok (.getfield 24, 3) := by decide +kernel
theorem dX3_copyFrom_52 : decode cX3_copyFrom 52 = .ok (.invokestatic 44, 3) := by decide +kernel
theorem dX3_copyFrom_55 : decode cX3_copyFrom 55 = .ok (.aload_n 1, 1) := by decide +kernel
theorem dX3_copyFrom_56 : decode cX3_copyFrom 56 = .ok (.getfield 27, 3) := by decide +kernel
theorem dX3_copyFrom_59 : decode cX3_copyFrom 59 = .ok (.aload_n 0, 1) := by decide +kernel
theorem dX3_copyFrom_60 : decode cX3_copyFrom 60 = .ok (.getfield 27, 3) := by decide +kernel
theorem dX3_copyFrom_63 : decode cX3_copyFrom 63 = .ok (.invokestatic 44, 3) := by decide +kernel
theorem dX3_copyFrom_66 : decode cX3_copyFrom 66 = .ok (.aload_n 1, 1) := by decide +kernel
theorem dX3_copyFrom_67 : decode cX3_copyFrom 67 = .ok (.getfield 30, 3) := by decide +kernel
theorem dX3_copyFrom_70 : decode cX3_copyFrom 70 = .ok (.aload_n 0, 1) := by decide +kernel
theorem dX3_copyFrom_71 : decode cX3_copyFrom 71 = .ok (.getfield 30, 3) := by decide +kernel
theorem dX3_copyFrom_74 : decode cX3_copyFrom 74 = .ok (.invokestatic 44, 3) := by decide +kernel
theorem dX3_copyFrom_77 : decode cX3_copyFrom 77 = .ok (.aload_n 0, 1) := by decide +kernel
theorem dX3_copyFrom_78 : decode cX3_copyFrom 78 = .ok (.aload_n 1, 1) := by decide +kernel
theorem dX3_copyFrom_79 : decode cX3_copyFrom 79 = .ok (.getfield 33, 3) := by decide +kernel
theorem dX3_copyFrom_82 : decode cX3_copyFrom 82 = .ok (.putfield 33, 3) := by decide +kernel
theorem dX3_copyFrom_85 : decode cX3_copyFrom 85 = .ok (.return_, 1) := by decide +kernel
theorem dX4_init_0 : decode cX4_init 0 = .ok (.aload_n 0, 1) := by decide +kernel
theorem dX4_init_1 : decode cX4_init 1 = .ok (.invokespecial 3, 3) := by decide +kernel
theorem dX4_init_4 : decode cX4_init 4 = .ok (.aload_n 0, 1) := by decide +kernel
theorem dX4_init_5 : decode cX4_init 5 = .ok (.bipush 8, 2) := by decide +kernel
theorem dX4_init_7 : decode cX4_init 7 = .ok (.newarray .int, 2) := by decide +kernel
theorem dX4_init_9 : decode cX4_init 9 = .ok (.putfield 9, 3) := by decide +kernel
theorem dX4_init_12 : decode cX4_init 12 = .ok (.aload_n 0, 1) := by decide +kernel
theorem dX4_init_13 : decode cX4_init 13 = .ok (.bipush 8, 2) := by decide +kernel
theorem dX4_init_15 : decode cX4_init 15 = .ok (.newarray .int, 2) := by decide +kernel
theorem dX4_init_17 : decode cX4_init 17 = .ok (.putfield 15, 3) := by decide +kernel
theorem dX4_init_20 : decode cX4_init 20 = .ok (.aload_n 0, 1) := by decide +kernel
theorem dX4_init_21 : decode cX4_init 21 = .ok (.bipush 8, 2) := by decide +kernel
theorem dX4_init_23 : decode cX4_init 23 = .ok (.newarray .int, 2) := by decide +kernel
theorem dX4_init_25 : decode cX4_init 25 = .ok (.putfield 18, 3) := by decide +kernel
theorem dX4_init_28 : decode cX4_init 28 = .ok (.aload_n 0, 1) := by decide +kernel
theorem dX4_init_29 : decode cX4_init 29 = .ok (.bipush 8, 2) := by decide +kernel
theorem dX4_init_31 : decode cX4_init 31 = .ok (.newarray .int, 2) := by decide +kernel
theorem dX4_init_33 : decode cX4_init 33 = .ok (.putfield 21, 3) := by decide +kernel
theorem dX4_init_36 : decode cX4_init 36 = .ok (.return_, 1) := by decide +kernel
theorem dX4_has_0 : decode cX4_has 0 = .ok (.iload_n 1, 1) := by decide +kernel
theorem dX4_has_1 : decode cX4_has 1 = .ok (.ifCond .lt 21, 3) := by decide +kernel
theorem dX4_has_4 : decode cX4_has 4 = .ok (.iload_n 1, 1) := by decide +kernel
theorem dX4_has_5 : decode cX4_has 5 = .ok (.aload_n 0, 1) := by decide +kernel
theorem dX4_has_6 : decode cX4_has 6 = .ok (.getfield 24, 3) := by decide +kernel
theorem dX4_has_9 : decode cX4_has 9 = .ok (.if_icmp .ge 13, 3) := by decide +kernel
theorem dX4_has_12 : decode cX4_has 12 = .ok (.iload_n 1, 1) := by decide +kernel
theorem dX4_has_13 : decode cX4_has 13 = .ok (.bipush 8, 2) := by decide +kernel
theorem dX4_has_15 : decode cX4_has 15 = .ok (.if_icmp .ge 7, 3) := by decide +kernel
theorem dX4_has_18 : decode cX4_has 18 = .ok (.iconst 1, 1) := by decide +kernel
theorem dX4_has_19 : decode cX4_has 19 = .ok (.goto 4, 3) := by decide +kernel
theorem dX4_has_22 : decode cX4_has 22 = .ok (.iconst 0, 1) := by decide +kernel
theorem dX4_has_23 : decode cX4_has 23 = .ok (.ireturn, 1) := by decide +kernel
theorem dX4_append_0 : decode cX4_append 0 = .ok (.aload_n 0, 1) := by decide +kernel
theorem dX4_append_1 : decode cX4_append 1 = .ok (.getfield 24, 3) := by decide +kernel
theorem dX4_append_4 : decode cX4_append 4 = .ok (.ifCond .lt 12, 3) := by decide +kernel
theorem dX4_append_7 : decode cX4_append 7 = .ok (.aload_n 0, 1) := by decide +kernel
theorem dX4_append_8 : decode cX4_append 8 = .ok (.getfield 24, 3) := by decide +kernel
theorem dX4_append_11 : decode cX4_append 11 = .ok (.bipush 8, 2) := by decide +kernel
theorem dX4_append_13 : decode cX4_append 13 = .ok (.if_icmp .lt 6, 3) := by decide +kernel
theorem dX4_append_16 : decode cX4_append 16 = .ok (.bipush (-3), 2) := by decide +kernel
theorem dX4_append_18 : decode cX4_append 18 = .ok (.ireturn, 1) := by decide +kernel
theorem dX4_append_19 : decode cX4_append 19 = .ok (.aload_n 0, 1) := by decide +kernel
theorem dX4_append_20 : decode cX4_append 20 = .ok (.getfield 9, 3) := by decide +kernel
theorem dX4_append_23 : decode cX4_append 23 = .ok (.aload_n 0, 1) := by decide +kernel
theorem dX4_append_24 : decode cX4_append 24 = .ok (.getfield 24, 3) := by decide +kernel
theorem dX4_append_27 : decode cX4_append 27 = .ok (.iload_n 1, 1) := by decide +kernel
theorem dX4_append_28 : decode cX4_append 28 = .ok (.iastore, 1) := by decide +kernel
theorem dX4_append_29 : decode cX4_append 29 = .ok (.aload_n 0, 1) := by decide +kernel
theorem dX4_append_30 : decode cX4_append 30 = .ok (.getfield 15, 3) := by decide +kernel
theorem dX4_append_33 : decode cX4_append 33 = .ok (.aload_n 0, 1) := by decide +kernel
theorem dX4_append_34 : decode cX4_append 34 = .ok (.getfield 24, 3) := by decide +kernel
theorem dX4_append_37 : decode cX4_append 37 = .ok (.iconst 0, 1) := by decide +kernel
theorem dX4_append_38 : decode cX4_append 38 = .ok (.iastore, 1) := by decide +kernel
theorem dX4_append_39 : decode cX4_append 39 = .ok (.aload_n 0, 1) := by decide +kernel
theorem dX4_append_40 : decode cX4_append 40 = .ok (.getfield 18, 3) := by decide +kernel
theorem dX4_append_43 : decode cX4_append 43 = .ok (.aload_n 0, 1) := by decide +kernel
theorem dX4_append_44 : decode cX4_append 44 = .ok (.getfield 24, 3) := by decide +kernel
theorem dX4_append_47 : decode cX4_append 47 = .ok (.iconst 0, 1) := by decide +kernel
theorem dX4_append_48 : decode cX4_append 48 = .ok (.iastore, 1) := by decide +kernel
theorem dX4_append_49 : decode cX4_append 49 = .ok (.aload_n 0, 1) := by decide +kernel
theorem dX4_append_50 : decode cX4_append 50 = .ok (.getfield 21, 3) := by decide +kernel
theorem dX4_append_53 : decode cX4_append 53 = .ok (.aload_n 0, 1) := by decide +kernel
theorem dX4_append_54 : decode cX4_append 54 = .ok (.getfield 24, 3) := by decide +kernel
theorem dX4_append_57 : decode cX4_append 57 = .ok (.iconst 0, 1) := by decide +kernel
theorem dX4_append_58 : decode cX4_append 58 = .ok (.iastore, 1) := by decide +kernel
theorem dX4_append_59 : decode cX4_append 59 = .ok (.aload_n 0, 1) := by decide +kernel
theorem dX4_append_60 : decode cX4_append 60 = .ok (.dup, 1) := by decide +kernel
theorem dX4_append_61 : decode cX4_append 61 = .ok (.getfield 24, 3) := by decide +kernel
theorem dX4_append_64 : decode cX4_append 64 = .ok (.iconst 1, 1) := by decide +kernel
theorem dX4_append_65 : decode cX4_append 65 = .ok (.iadd, 1) := by decide +kernel
theorem dX4_append_66 : decode cX4_append 66 = .ok (.putfield 24, 3) := by decide +kernel
theorem dX4_append_69 : decode cX4_append 69 = .ok (.aload_n 0, 1) := by decide +kernel
theorem dX4_append_70 : decode cX4_append 70 = .ok (.getfield 24, 3) := by decide +kernel
theorem dX4_append_73 : decode cX4_append 73 = .ok (.iconst 1, 1) := by decide +kernel
theorem dX4_append_74 : decode cX4_append 74 = .ok (.isub, 1) := by decide +kernel
theorem dX4_append_75 : decode cX4_append 75 = .ok (.ireturn, 1) := by decide +kernel
theorem dX4_intoPurse_0 : decode cX4_intoPurse 0 = .ok (.aload_n 0, 1) := by decide +kernel
theorem dX4_intoPurse_1 : decode cX4_intoPurse 1 = .ok (.iload_n 1, 1) := by decide +kernel
theorem dX4_intoPurse_2 : decode cX4_intoPurse 2 = .ok (.invokevirtual 28, 3) := by decide +kernel
theorem dX4_intoPurse_5 : decode cX4_intoPurse 5 = .ok (.ifCond .eq 13, 3) := by decide +kernel
theorem dX4_intoPurse_8 : decode cX4_intoPurse 8 = .ok (.aload_n 0, 1) := by decide +kernel
theorem dX4_intoPurse_9 : decode cX4_intoPurse 9 = .ok (.getfield 18, 3) := by decide +kernel
theorem dX4_intoPurse_12 : decode cX4_intoPurse 12 = .ok (.iload_n 1, 1) := by decide +kernel
theorem dX4_intoPurse_13 : decode cX4_intoPurse 13 = .ok (.dup2, 1) := by decide +kernel
theorem dX4_intoPurse_14 : decode cX4_intoPurse 14 = .ok (.iaload, 1) := by decide +kernel
theorem dX4_intoPurse_15 : decode cX4_intoPurse 15 = .ok (.iload_n 2, 1) := by decide +kernel
theorem dX4_intoPurse_16 : decode cX4_intoPurse 16 = .ok (.iadd, 1) := by decide +kernel
theorem dX4_intoPurse_17 : decode cX4_intoPurse 17 = .ok (.iastore, 1) := by decide +kernel
theorem dX4_intoPurse_18 : decode cX4_intoPurse 18 = .ok (.return_, 1) := by decide +kernel
theorem dX4_bear_0 : decode cX4_bear 0 = .ok (.aload_n 0, 1) := by decide +kernel
theorem dX4_bear_1 : decode cX4_bear 1 = .ok (.iload_n 1, 1) := by decide +kernel
theorem dX4_bear_2 : decode cX4_bear 2 = .ok (.invokevirtual 28, 3) := by decide +kernel
theorem dX4_bear_5 : decode cX4_bear 5 = .ok (.ifCond .ne 4, 3) := by decide +kernel
theorem dX4_bear_8 : decode cX4_bear 8 = .ok (.return_, 1) := by decide +kernel
theorem dX4_bear_9 : decode cX4_bear 9 = .ok (.aload_n 0, 1) := by decide +kernel
theorem dX4_bear_10 : decode cX4_bear 10 = .ok (.getfield 18, 3) := by decide +kernel
theorem dX4_bear_13 : decode cX4_bear 13 = .ok (.iload_n 1, 1) := by decide +kernel
theorem dX4_bear_14 : decode cX4_bear 14 = .ok (.dup2, 1) := by decide +kernel
theorem dX4_bear_15 : decode cX4_bear 15 = .ok (.iaload, 1) := by decide +kernel
theorem dX4_bear_16 : decode cX4_bear 16 = .ok (.iload_n 2, 1) := by decide +kernel
theorem dX4_bear_17 : decode cX4_bear 17 = .ok (.isub, 1) := by decide +kernel
theorem dX4_bear_18 : decode cX4_bear 18 = .ok (.iastore, 1) := by decide +kernel
theorem dX4_bear_19 : decode cX4_bear 19 = .ok (.aload_n 0, 1) := by decide +kernel
theorem dX4_bear_20 : decode cX4_bear 20 = .ok (.getfield 21, 3) := by decide +kernel
theorem dX4_bear_23 : decode cX4_bear 23 = .ok (.iload_n 1, 1) := by decide +kernel
theorem dX4_bear_24 : decode cX4_bear 24 = .ok (.dup2, 1) := by decide +kernel
theorem dX4_bear_25 : decode cX4_bear 25 = .ok (.iaload, 1) := by decide +kernel
theorem dX4_bear_26 : decode cX4_bear 26 = .ok (.iload_n 2, 1) := by decide +kernel
theorem dX4_bear_27 : decode cX4_bear 27 = .ok (.iadd, 1) := by decide +kernel
theorem dX4_bear_28 : decode cX4_bear 28 = .ok (.iastore, 1) := by decide +kernel
theorem dX4_bear_29 : decode cX4_bear 29 = .ok (.return_, 1) := by decide +kernel
theorem dX4_allDues_0 : decode cX4_allDues 0 = .ok (.iconst 0, 1) := by decide +kernel
theorem dX4_allDues_1 : decode cX4_allDues 1 = .ok (.istore_n 1, 1) := by decide +kernel
theorem dX4_allDues_2 : decode cX4_allDues 2 = .ok (.iconst 0, 1) := by decide +kernel
theorem dX4_allDues_3 : decode cX4_allDues 3 = .ok (.istore_n 2, 1) := by decide +kernel
theorem dX4_allDues_4 : decode cX4_allDues 4 = .ok (.iload_n 2, 1) := by decide +kernel
theorem dX4_allDues_5 : decode cX4_allDues 5 = .ok (.bipush 8, 2) := by decide +kernel
theorem dX4_allDues_7 : decode cX4_allDues 7 = .ok (.if_icmp .ge 26, 3) := by decide +kernel
theorem dX4_allDues_10 : decode cX4_allDues 10 = .ok (.aload_n 0, 1) := by decide +kernel
theorem dX4_allDues_11 : decode cX4_allDues 11 = .ok (.iload_n 2, 1) := by decide +kernel
theorem dX4_allDues_12 : decode cX4_allDues 12 = .ok (.invokevirtual 28, 3) := by decide +kernel
theorem dX4_allDues_15 : decode cX4_allDues 15 = .ok (.ifCond .eq 12, 3) := by decide +kernel
theorem dX4_allDues_18 : decode cX4_allDues 18 = .ok (.iload_n 1, 1) := by decide +kernel
theorem dX4_allDues_19 : decode cX4_allDues 19 = .ok (.aload_n 0, 1) := by decide +kernel
theorem dX4_allDues_20 : decode cX4_allDues 20 = .ok (.getfield 15, 3) := by decide +kernel
theorem dX4_allDues_23 : decode cX4_allDues 23 = .ok (.iload_n 2, 1) := by decide +kernel
theorem dX4_allDues_24 : decode cX4_allDues 24 = .ok (.iaload, 1) := by decide +kernel
theorem dX4_allDues_25 : decode cX4_allDues 25 = .ok (.iadd, 1) := by decide +kernel
theorem dX4_allDues_26 : decode cX4_allDues 26 = .ok (.istore_n 1, 1) := by decide +kernel
theorem dX4_allDues_27 : decode cX4_allDues 27 = .ok (.iinc 2 1, 3) := by decide +kernel
theorem dX4_allDues_30 : decode cX4_allDues 30 = .ok (.goto (-26), 3) := by decide +kernel
theorem dX4_allDues_33 : decode cX4_allDues 33 = .ok (.iload_n 1, 1) := by decide +kernel
theorem dX4_allDues_34 : decode cX4_allDues 34 = .ok (.ireturn, 1) := by decide +kernel
theorem dX4_allWeights_0 : decode cX4_allWeights 0 = .ok (.iconst 0, 1) := by decide +kernel
theorem dX4_allWeights_1 : decode cX4_allWeights 1 = .ok (.istore_n 1, 1) := by decide +kernel
theorem dX4_allWeights_2 : decode cX4_allWeights 2 = .ok (.iconst 0, 1) := by decide +kernel
theorem dX4_allWeights_3 : decode cX4_allWeights 3 = .ok (.istore_n 2, 1) := by decide +kernel
theorem dX4_allWeights_4 : decode cX4_allWeights 4 = .ok (.iload_n 2, 1) := by decide +kernel
theorem dX4_allWeights_5 : decode cX4_allWeights 5 = .ok (.bipush 8, 2) := by decide +kernel
theorem dX4_allWeights_7 : decode cX4_allWeights 7 = .ok (.if_icmp .ge 26, 3) := by decide +kernel
theorem dX4_allWeights_10 : decode cX4_allWeights 10 = .ok (.aload_n 0, 1) := by decide +kernel
theorem dX4_allWeights_11 : decode cX4_allWeights 11 = .ok (.iload_n 2, 1) := by decide +kernel
theorem dX4_allWeights_12 : decode cX4_allWeights 12 = .ok (.invokevirtual 28, 3) := by decide +kernel
theorem dX4_allWeights_15 : decode cX4_allWeights 15 = .ok (.ifCond .eq 12, 3) := by decide +kernel
theorem dX4_allWeights_18 : decode cX4_allWeights 18 = .ok (.iload_n 1, 1) := by decide +kernel
theorem dX4_allWeights_19 : decode cX4_allWeights 19 = .ok (.aload_n 0, 1) := by decide +kernel
theorem dX4_allWeights_20 : decode cX4_allWeights 20 = .ok (.getfield 9, 3) := by decide +kernel
theorem dX4_allWeights_23 : decode cX4_allWeights 23 = .ok (.iload_n 2, 1) := by decide +kernel
theorem dX4_allWeights_24 : decode cX4_allWeights 24 = .ok (.iaload, 1) := by decide +kernel
theorem dX4_allWeights_25 : decode cX4_allWeights 25 = .ok (.iadd, 1) := by decide +kernel
theorem dX4_allWeights_26 : decode cX4_allWeights 26 = .ok (.istore_n 1, 1) := by decide +kernel
theorem dX4_allWeights_27 : decode cX4_allWeights 27 = .ok (.iinc 2 1, 3) := by decide +kernel
theorem dX4_allWeights_30 : decode cX4_allWeights 30 = .ok (.goto (-26), 3) := by decide +kernel
theorem dX4_allWeights_33 : decode cX4_allWeights 33 = .ok (.iload_n 1, 1) := by decide +kernel
theorem dX4_allWeights_34 : decode cX4_allWeights 34 = .ok (.ireturn, 1) := by decide +kernel
theorem dX4_copyFrom_0 : decode cX4_copyFrom 0 = .ok (.aload_n 1, 1) := by decide +kernel
theorem dX4_copyFrom_1 : decode cX4_copyFrom 1 = .ok (.getfield 9, 3) := by decide +kernel
theorem dX4_copyFrom_4 : decode cX4_copyFrom 4 = .ok (.aload_n 0, 1) := by decide +kernel
theorem dX4_copyFrom_5 : decode cX4_copyFrom 5 = .ok (.getfield 9, 3) := by decide +kernel
theorem dX4_copyFrom_8 : decode cX4_copyFrom 8 = .ok (.invokestatic 32, 3) := by decide +kernel
theorem dX4_copyFrom_11 : decode cX4_copyFrom 11 = .ok (.aload_n 1, 1) := by decide +kernel
theorem dX4_copyFrom_12 : decode cX4_copyFrom 12 = .ok (.getfield 15, 3) := by decide +kernel
theorem dX4_copyFrom_15 : decode cX4_copyFrom 15 = .ok (.aload_n 0, 1) := by decide +kernel
theorem dX4_copyFrom_16 : decode cX4_copyFrom 16 = .ok (.getfield 15, 3) := by decide +kernel
theorem dX4_copyFrom_19 : decode cX4_copyFrom 19 = .ok (.invokestatic 32, 3) := by decide +kernel
theorem dX4_copyFrom_22 : decode cX4_copyFrom 22 = .ok (.aload_n 1, 1) := by decide +kernel
theorem dX4_copyFrom_23 : decode cX4_copyFrom 23 = .ok (.getfield 18, 3) := by decide +kernel
theorem dX4_copyFrom_26 : decode cX4_copyFrom 26 = .ok (.aload_n 0, 1) := by decide +kernel
theorem dX4_copyFrom_27 : decode cX4_copyFrom 27 = .ok (.getfield 18, 3) := by decide +kernel
theorem dX4_copyFrom_30 : decode cX4_copyFrom 30 = .ok (.invokestatic 32, 3) := by decide +kernel
theorem dX4_copyFrom_33 : decode cX4_copyFrom 33 = .ok (.aload_n 1, 1) := by decide +kernel
theorem dX4_copyFrom_34 : decode cX4_copyFrom 34 = .ok (.getfield 21, 3) := by decide +kernel
theorem dX4_copyFrom_37 : decode cX4_copyFrom 37 = .ok (.aload_n 0, 1) := by decide +kernel
theorem dX4_copyFrom_38 : decode cX4_copyFrom 38 = .ok (.getfield 21, 3) := by decide +kernel
theorem dX4_copyFrom_41 : decode cX4_copyFrom 41 = .ok (.invokestatic 32, 3) := by decide +kernel
theorem dX4_copyFrom_44 : decode cX4_copyFrom 44 = .ok (.aload_n 0, 1) := by decide +kernel
theorem dX4_copyFrom_45 : decode cX4_copyFrom 45 = .ok (.aload_n 1, 1) := by decide +kernel
theorem dX4_copyFrom_46 : decode cX4_copyFrom 46 = .ok (.getfield 24, 3) := by decide +kernel
theorem dX4_copyFrom_49 : decode cX4_copyFrom 49 = .ok (.putfield 24, 3) := by decide +kernel
theorem dX4_copyFrom_52 : decode cX4_copyFrom 52 = .ok (.return_, 1) := by decide +kernel
theorem dX5_init_0 : decode cX5_init 0 = .ok (.aload_n 0, 1) := by decide +kernel
theorem dX5_init_1 : decode cX5_init 1 = .ok (.invokespecial 3, 3) := by decide +kernel
theorem dX5_init_4 : decode cX5_init 4 = .ok (.aload_n 0, 1) := by decide +kernel
theorem dX5_init_5 : decode cX5_init 5 = .ok (.bipush 20, 2) := by decide +kernel
theorem dX5_init_7 : decode cX5_init 7 = .ok (.newarray .int, 2) := by decide +kernel
theorem dX5_init_9 : decode cX5_init 9 = .ok (.putfield 9, 3) := by decide +kernel
theorem dX5_init_12 : decode cX5_init 12 = .ok (.aload_n 0, 1) := by decide +kernel
theorem dX5_init_13 : decode cX5_init 13 = .ok (.bipush 20, 2) := by decide +kernel
theorem dX5_init_15 : decode cX5_init 15 = .ok (.newarray .float, 2) := by decide +kernel
theorem dX5_init_17 : decode cX5_init 17 = .ok (.putfield 15, 3) := by decide +kernel
theorem dX5_init_20 : decode cX5_init 20 = .ok (.return_, 1) := by decide +kernel
theorem dX5_insert_0 : decode cX5_insert 0 = .ok (.aload_n 0, 1) := by decide +kernel
theorem dX5_insert_1 : decode cX5_insert 1 = .ok (.getfield 19, 3) := by decide +kernel
theorem dX5_insert_4 : decode cX5_insert 4 = .ok (.ifCond .lt 12, 3) := by decide +kernel
theorem dX5_insert_7 : decode cX5_insert 7 = .ok (.aload_n 0, 1) := by decide +kernel
theorem dX5_insert_8 : decode cX5_insert 8 = .ok (.getfield 19, 3) := by decide +kernel
theorem dX5_insert_11 : decode cX5_insert 11 = .ok (.bipush 20, 2) := by decide +kernel
theorem dX5_insert_13 : decode cX5_insert 13 = .ok (.if_icmp .lt 4, 3) := by decide +kernel
theorem dX5_insert_16 : decode cX5_insert 16 = .ok (.return_, 1) := by decide +kernel
theorem dX5_insert_17 : decode cX5_insert 17 = .ok (.aload_n 0, 1) := by decide +kernel
theorem dX5_insert_18 : decode cX5_insert 18 = .ok (.getfield 19, 3) := by decide +kernel
theorem dX5_insert_21 : decode cX5_insert 21 = .ok (.istore_n 3, 1) := by decide +kernel
theorem dX5_insert_22 : decode cX5_insert 22 = .ok (.iload_n 3, 1) := by decide +kernel
theorem dX5_insert_23 : decode cX5_insert 23 = .ok (.ifCond .le 50, 3) := by decide +kernel
theorem dX5_insert_26 : decode cX5_insert 26 = .ok (.aload_n 0, 1) := by decide +kernel
theorem dX5_insert_27 : decode cX5_insert 27 = .ok (.getfield 15, 3) := by decide +kernel
theorem dX5_insert_30 : decode cX5_insert 30 = .ok (.iload_n 3, 1) := by decide +kernel
theorem dX5_insert_31 : decode cX5_insert 31 = .ok (.iconst 1, 1) := by decide +kernel
theorem dX5_insert_32 : decode cX5_insert 32 = .ok (.isub, 1) := by decide +kernel
theorem dX5_insert_33 : decode cX5_insert 33 = .ok (.faload, 1) := by decide +kernel
theorem dX5_insert_34 : decode cX5_insert 34 = .ok (.fload_n 2, 1) := by decide +kernel
theorem dX5_insert_35 : decode cX5_insert 35 = .ok (.fcmp .g, 1) := by decide +kernel
theorem dX5_insert_36 : decode cX5_insert 36 = .ok (.ifCond .ge 37, 3) := by decide +kernel
theorem dX5_insert_39 : decode cX5_insert 39 = .ok (.aload_n 0, 1) := by decide +kernel
theorem dX5_insert_40 : decode cX5_insert 40 = .ok (.getfield 9, 3) := by decide +kernel
theorem dX5_insert_43 : decode cX5_insert 43 = .ok (.iload_n 3, 1) := by decide +kernel
theorem dX5_insert_44 : decode cX5_insert 44 = .ok (.aload_n 0, 1) := by decide +kernel
theorem dX5_insert_45 : decode cX5_insert 45 = .ok (.getfield 9, 3) := by decide +kernel
theorem dX5_insert_48 : decode cX5_insert 48 = .ok (.iload_n 3, 1) := by decide +kernel
theorem dX5_insert_49 : decode cX5_insert 49 = .ok (.iconst 1, 1) := by decide +kernel
theorem dX5_insert_50 : decode cX5_insert 50 = .ok (.isub, 1) := by decide +kernel
theorem dX5_insert_51 : decode cX5_insert 51 = .ok (.iaload, 1) := by decide +kernel
theorem dX5_insert_52 : decode cX5_insert 52 = .ok (.iastore, 1) := by decide +kernel
theorem dX5_insert_53 : decode cX5_insert 53 = .ok (.aload_n 0, 1) := by decide +kernel
theorem dX5_insert_54 : decode cX5_insert 54 = .ok (.getfield 15, 3) := by decide +kernel
theorem dX5_insert_57 : decode cX5_insert 57 = .ok (.iload_n 3, 1) := by decide +kernel
theorem dX5_insert_58 : decode cX5_insert 58 = .ok (.aload_n 0, 1) := by decide +kernel
theorem dX5_insert_59 : decode cX5_insert 59 = .ok (.getfield 15, 3) := by decide +kernel
theorem dX5_insert_62 : decode cX5_insert 62 = .ok (.iload_n 3, 1) := by decide +kernel
theorem dX5_insert_63 : decode cX5_insert 63 = .ok (.iconst 1, 1) := by decide +kernel
theorem dX5_insert_64 : decode cX5_insert 64 = .ok (.isub, 1) := by decide +kernel
theorem dX5_insert_65 : decode cX5_insert 65 = .ok (.faload, 1) := by decide +kernel
theorem dX5_insert_66 : decode cX5_insert 66 = .ok (.fastore, 1) := by decide +kernel
theorem dX5_insert_67 : decode cX5_insert 67 = .ok (.iinc 3 (-1), 3) := by decide +kernel
theorem dX5_insert_70 : decode cX5_insert 70 = .ok (.goto (-48), 3) := by decide +kernel
theorem dX5_insert_73 : decode cX5_insert 73 = .ok (.aload_n 0, 1) := by decide +kernel
theorem dX5_insert_74 : decode cX5_insert 74 = .ok (.getfield 9, 3) := by decide +kernel
theorem dX5_insert_77 : decode cX5_insert 77 = .ok (.iload_n 3, 1) := by decide +kernel
theorem dX5_insert_78 : decode cX5_insert 78 = .ok (.iload_n 1, 1) := by decide +kernel
theorem dX5_insert_79 : decode cX5_insert 79 = .ok (.iastore, 1) := by decide +kernel
theorem dX5_insert_80 : decode cX5_insert 80 = .ok (.aload_n 0, 1) := by decide +kernel
theorem dX5_insert_81 : decode cX5_insert 81 = .ok (.getfield 15, 3) := by decide +kernel
theorem dX5_insert_84 : decode cX5_insert 84 = .ok (.iload_n 3, 1) := by decide +kernel
theorem dX5_insert_85 : decode cX5_insert 85 = .ok (.fload_n 2, 1) := by decide +kernel
theorem dX5_insert_86 : decode cX5_insert 86 = .ok (.fastore, 1) := by decide +kernel
theorem dX5_insert_87 : decode cX5_insert 87 = .ok (.aload_n 0, 1) := by decide +kernel
theorem dX5_insert_88 : decode cX5_insert 88 = .ok (.dup, 1) := by decide +kernel
theorem dX5_insert_89 : decode cX5_insert 89 = .ok (.getfield 19, 3) := by decide +kernel
theorem dX5_insert_92 : decode cX5_insert 92 = .ok (.iconst 1, 1) := by decide +kernel
theorem dX5_insert_93 : decode cX5_insert 93 = .ok (.iadd, 1) := by decide +kernel
theorem dX5_insert_94 : decode cX5_insert 94 = .ok (.putfield 19, 3) := by decide +kernel
theorem dX5_insert_97 : decode cX5_insert 97 = .ok (.return_, 1) := by decide +kernel
theorem dX5_invoiceAt_0 : decode cX5_invoiceAt 0 = .ok (.iload_n 1, 1) := by decide +kernel
theorem dX5_invoiceAt_1 : decode cX5_invoiceAt 1 = .ok (.ifCond .lt 9, 3) := by decide +kernel
theorem dX5_invoiceAt_4 : decode cX5_invoiceAt 4 = .ok (.iload_n 1, 1) := by decide +kernel
theorem dX5_invoiceAt_5 : decode cX5_invoiceAt 5 = .ok (.bipush 20, 2) := by decide +kernel
theorem dX5_invoiceAt_7 : decode cX5_invoiceAt 7 = .ok (.if_icmp .lt 8, 3) := by decide +kernel
theorem dX5_invoiceAt_10 : decode cX5_invoiceAt 10 = .ok (.bipush (-5), 2) := by decide +kernel
theorem dX5_invoiceAt_12 : decode cX5_invoiceAt 12 = .ok (.goto 9, 3) := by decide +kernel
theorem dX5_invoiceAt_15 : decode cX5_invoiceAt 15 = .ok (.aload_n 0, 1) := by decide +kernel
theorem dX5_invoiceAt_16 : decode cX5_invoiceAt 16 = .ok (.getfield 9, 3) := by decide +kernel
theorem dX5_invoiceAt_19 : decode cX5_invoiceAt 19 = .ok (.iload_n 1, 1) := by decide +kernel
theorem dX5_invoiceAt_20 : decode cX5_invoiceAt 20 = .ok (.iaload, 1) := by decide +kernel
theorem dX5_invoiceAt_21 : decode cX5_invoiceAt 21 = .ok (.ireturn, 1) := by decide +kernel
theorem dX6_init_0 : decode cX6_init 0 = .ok (.aload_n 0, 1) := by decide +kernel
theorem dX6_init_1 : decode cX6_init 1 = .ok (.invokespecial 3, 3) := by decide +kernel
theorem dX6_init_4 : decode cX6_init 4 = .ok (.aload_n 0, 1) := by decide +kernel
theorem dX6_init_5 : decode cX6_init 5 = .ok (.bipush 60, 2) := by decide +kernel
theorem dX6_init_7 : decode cX6_init 7 = .ok (.newarray .char, 2) := by decide +kernel
theorem dX6_init_9 : decode cX6_init 9 = .ok (.putfield 9, 3) := by decide +kernel
theorem dX6_init_12 : decode cX6_init 12 = .ok (.aload_n 0, 1) := by decide +kernel
theorem dX6_init_13 : decode cX6_init 13 = .ok (.bipush 60, 2) := by decide +kernel
theorem dX6_init_15 : decode cX6_init 15 = .ok (.newarray .int, 2) := by decide +kernel
theorem dX6_init_17 : decode cX6_init 17 = .ok (.putfield 15, 3) := by decide +kernel
theorem dX6_init_20 : decode cX6_init 20 = .ok (.aload_n 0, 1) := by decide +kernel
theorem dX6_init_21 : decode cX6_init 21 = .ok (.bipush 60, 2) := by decide +kernel
theorem dX6_init_23 : decode cX6_init 23 = .ok (.newarray .int, 2) := by decide +kernel
theorem dX6_init_25 : decode cX6_init 25 = .ok (.putfield 19, 3) := by decide +kernel
theorem dX6_init_28 : decode cX6_init 28 = .ok (.return_, 1) := by decide +kernel
theorem dX7_init_0 : decode cX7_init 0 = .ok (.aload_n 0, 1) := by decide +kernel
theorem dX7_init_1 : decode cX7_init 1 = .ok (.invokespecial 1, 3) := by decide +kernel
theorem dX7_init_4 : decode cX7_init 4 = .ok (.aload_n 0, 1) := by decide +kernel
theorem dX7_init_5 : decode cX7_init 5 = .ok (.new 7, 3) := by decide +kernel
theorem dX7_init_8 : decode cX7_init 8 = .ok (.dup, 1) := by decide +kernel
theorem dX7_init_9 : decode cX7_init 9 = .ok (.invokespecial 9, 3) := by decide +kernel
theorem dX7_init_12 : decode cX7_init 12 = .ok (.putfield 10, 3) := by decide +kernel
theorem dX7_init_15 : decode cX7_init 15 = .ok (.aload_n 0, 1) := by decide +kernel
theorem dX7_init_16 : decode cX7_init 16 = .ok (.new 7, 3) := by decide +kernel
theorem dX7_init_19 : decode cX7_init 19 = .ok (.dup, 1) := by decide +kernel
theorem dX7_init_20 : decode cX7_init 20 = .ok (.invokespecial 9, 3) := by decide +kernel
theorem dX7_init_23 : decode cX7_init 23 = .ok (.putfield 16, 3) := by decide +kernel
theorem dX7_init_26 : decode cX7_init 26 = .ok (.aload_n 0, 1) := by decide +kernel
theorem dX7_init_27 : decode cX7_init 27 = .ok (.new 7, 3) := by decide +kernel
theorem dX7_init_30 : decode cX7_init 30 = .ok (.dup, 1) := by decide +kernel
theorem dX7_init_31 : decode cX7_init 31 = .ok (.invokespecial 9, 3) := by decide +kernel
theorem dX7_init_34 : decode cX7_init 34 = .ok (.putfield 19, 3) := by decide +kernel
theorem dX7_init_37 : decode cX7_init 37 = .ok (.aload_n 0, 1) := by decide +kernel
theorem dX7_init_38 : decode cX7_init 38 = .ok (.new 22, 3) := by decide +kernel
theorem dX7_init_41 : decode cX7_init 41 = .ok (.dup, 1) := by decide +kernel
theorem dX7_init_42 : decode cX7_init 42 = .ok (.invokespecial 24, 3) := by decide +kernel
theorem dX7_init_45 : decode cX7_init 45 = .ok (.putfield 25, 3) := by decide +kernel
theorem dX7_init_48 : decode cX7_init 48 = .ok (.aload_n 0, 1) := by decide +kernel
theorem dX7_init_49 : decode cX7_init 49 = .ok (.new 29, 3) := by decide +kernel
theorem dX7_init_52 : decode cX7_init 52 = .ok (.dup, 1) := by decide +kernel
theorem dX7_init_53 : decode cX7_init 53 = .ok (.invokespecial 31, 3) := by decide +kernel
theorem dX7_init_56 : decode cX7_init 56 = .ok (.putfield 32, 3) := by decide +kernel
theorem dX7_init_59 : decode cX7_init 59 = .ok (.aload_n 0, 1) := by decide +kernel
theorem dX7_init_60 : decode cX7_init 60 = .ok (.new 36, 3) := by decide +kernel
theorem dX7_init_63 : decode cX7_init 63 = .ok (.dup, 1) := by decide +kernel
theorem dX7_init_64 : decode cX7_init 64 = .ok (.invokespecial 38, 3) := by decide +kernel
theorem dX7_init_67 : decode cX7_init 67 = .ok (.putfield 39, 3) := by decide +kernel
theorem dX7_init_70 : decode cX7_init 70 = .ok (.aload_n 0, 1) := by decide +kernel
theorem dX7_init_71 : decode cX7_init 71 = .ok (.iconst 0, 1) := by decide +kernel
theorem dX7_init_72 : decode cX7_init 72 = .ok (.putfield 43, 3) := by decide +kernel
theorem dX7_init_75 : decode cX7_init 75 = .ok (.return_, 1) := by decide +kernel
theorem dX7_setRate_0 : decode cX7_setRate 0 = .ok (.iload_n 1, 1) := by decide +kernel
theorem dX7_setRate_1 : decode cX7_setRate 1 = .ok (.ifCond .lt 8, 3) := by decide +kernel
theorem dX7_setRate_4 : decode cX7_setRate 4 = .ok (.iload_n 1, 1) := by decide +kernel
theorem dX7_setRate_5 : decode cX7_setRate 5 = .ok (.iconst 3, 1) := by decide +kernel
theorem dX7_setRate_6 : decode cX7_setRate 6 = .ok (.if_icmp .lt 5, 3) := by decide +kernel
theorem dX7_setRate_9 : decode cX7_setRate 9 = .ok (.iconst (-1), 1) := by decide +kernel
theorem dX7_setRate_10 : decode cX7_setRate 10 = .ok (.ireturn, 1) := by decide +kernel
theorem dX7_setRate_11 : decode cX7_setRate 11 = .ok (.iload_n 2, 1) := by decide +kernel
theorem dX7_setRate_12 : decode cX7_setRate 12 = .ok (.getstatic 47, 3) := by decide +kernel
theorem dX7_setRate_15 : decode cX7_setRate 15 = .ok (.iload_n 1, 1) := by decide +kernel
theorem dX7_setRate_16 : decode cX7_setRate 16 = .ok (.iaload, 1) := by decide +kernel
theorem dX7_setRate_17 : decode cX7_setRate 17 = .ok (.if_icmp .lt 12, 3) := by decide +kernel
theorem dX7_setRate_20 : decode cX7_setRate 20 = .ok (.iload_n 2, 1) := by decide +kernel
theorem dX7_setRate_21 : decode cX7_setRate 21 = .ok (.getstatic 51, 3) := by decide +kernel
theorem dX7_setRate_24 : decode cX7_setRate 24 = .ok (.iload_n 1, 1) := by decide +kernel
theorem dX7_setRate_25 : decode cX7_setRate 25 = .ok (.iaload, 1) := by decide +kernel
theorem dX7_setRate_26 : decode cX7_setRate 26 = .ok (.if_icmp .le 6, 3) := by decide +kernel
theorem dX7_setRate_29 : decode cX7_setRate 29 = .ok (.bipush (-2), 2) := by decide +kernel
theorem dX7_setRate_31 : decode cX7_setRate 31 = .ok (.ireturn, 1) := by decide +kernel
theorem dX7_setRate_32 : decode cX7_setRate 32 = .ok (.iload_n 2, 1) := by decide +kernel
theorem dX7_setRate_33 : decode cX7_setRate 33 = .ok (.invokestatic 54, 3) := by decide +kernel
theorem dX7_setRate_36 : decode cX7_setRate 36 = .ok (.fstore_n 3, 1) := by decide +kernel
theorem dX7_setRate_37 : decode cX7_setRate 37 = .ok (.aload_n 0, 1) := by decide +kernel
theorem dX7_setRate_38 : decode cX7_setRate 38 = .ok (.getfield 10, 3) := by decide +kernel
theorem dX7_setRate_41 : decode cX7_setRate 41 = .ok (.getfield 58, 3) := by decide +kernel
theorem dX7_setRate_44 : decode cX7_setRate 44 = .ok (.iload_n 1, 1) := by decide +kernel
theorem dX7_setRate_45 : decode cX7_setRate 45 = .ok (.faload, 1) := by decide +kernel
theorem dX7_setRate_46 : decode cX7_setRate 46 = .ok (.fload_n 3, 1) := by decide +kernel
theorem dX7_setRate_47 : decode cX7_setRate 47 = .ok (.fcmp .l, 1) := by decide +kernel
theorem dX7_setRate_48 : decode cX7_setRate 48 = .ok (.ifCond .ne 6, 3) := by decide +kernel
theorem dX7_setRate_51 : decode cX7_setRate 51 = .ok (.bipush (-5), 2) := by decide +kernel
theorem dX7_setRate_53 : decode cX7_setRate 53 = .ok (.ireturn, 1) := by decide +kernel
theorem dX7_setRate_54 : decode cX7_setRate 54 = .ok (.aload_n 0, 1) := by decide +kernel
theorem dX7_setRate_55 : decode cX7_setRate 55 = .ok (.getfield 25, 3) := by decide +kernel
theorem dX7_setRate_58 : decode cX7_setRate 58 = .ok (.aload_n 0, 1) := by decide +kernel
theorem dX7_setRate_59 : decode cX7_setRate 59 = .ok (.getfield 10, 3) := by decide +kernel
theorem dX7_setRate_62 : decode cX7_setRate 62 = .ok (.invokevirtual 62, 3) := by decide +kernel
theorem dX7_setRate_65 : decode cX7_setRate 65 = .ok (.aload_n 0, 1) := by decide +kernel
theorem dX7_setRate_66 : decode cX7_setRate 66 = .ok (.getfield 10, 3) := by decide +kernel
theorem dX7_setRate_69 : decode cX7_setRate 69 = .ok (.getfield 58, 3) := by decide +kernel
theorem dX7_setRate_72 : decode cX7_setRate 72 = .ok (.iload_n 1, 1) := by decide +kernel
theorem dX7_setRate_73 : decode cX7_setRate 73 = .ok (.fload_n 3, 1) := by decide +kernel
theorem dX7_setRate_74 : decode cX7_setRate 74 = .ok (.fastore, 1) := by decide +kernel
theorem dX7_setRate_75 : decode cX7_setRate 75 = .ok (.iconst 1, 1) := by decide +kernel
theorem dX7_setRate_76 : decode cX7_setRate 76 = .ok (.ireturn, 1) := by decide +kernel
theorem dX7_setNumber_0 : decode cX7_setNumber 0 = .ok (.iload_n 1, 1) := by decide +kernel
theorem dX7_setNumber_1 : decode cX7_setNumber 1 = .ok (.ifCond .lt 8, 3) := by decide +kernel
theorem dX7_setNumber_4 : decode cX7_setNumber 4 = .ok (.iload_n 1, 1) := by decide +kernel
theorem dX7_setNumber_5 : decode cX7_setNumber 5 = .ok (.iconst 3, 1) := by decide +kernel
theorem dX7_setNumber_6 : decode cX7_setNumber 6 = .ok (.if_icmp .lt 5, 3) := by decide +kernel
theorem dX7_setNumber_9 : decode cX7_setNumber 9 = .ok (.iconst (-1), 1) := by decide +kernel
theorem dX7_setNumber_10 : decode cX7_setNumber 10 = .ok (.ireturn, 1) := by decide +kernel
theorem dX7_setNumber_11 : decode cX7_setNumber 11 = .ok (.iload_n 2, 1) := by decide +kernel
theorem dX7_setNumber_12 : decode cX7_setNumber 12 = .ok (.getstatic 66, 3) := by decide +kernel
theorem dX7_setNumber_15 : decode cX7_setNumber 15 = .ok (.iload_n 1, 1) := by decide +kernel
theorem dX7_setNumber_16 : decode cX7_setNumber 16 = .ok (.iaload, 1) := by decide +kernel
theorem dX7_setNumber_17 : decode cX7_setNumber 17 = .ok (.if_icmp .lt 12, 3) := by decide +kernel
theorem dX7_setNumber_20 : decode cX7_setNumber 20 = .ok (.iload_n 2, 1) := by decide +kernel
theorem dX7_setNumber_21 : decode cX7_setNumber 21 = .ok (.getstatic 69, 3) := by decide +kernel
theorem dX7_setNumber_24 : decode cX7_setNumber 24 = .ok (.iload_n 1, 1) := by decide +kernel
theorem dX7_setNumber_25 : decode cX7_setNumber 25 = .ok (.iaload, 1) := by decide +kernel
theorem dX7_setNumber_26 : decode cX7_setNumber 26 = .ok (.if_icmp .le 6, 3) := by decide +kernel
theorem dX7_setNumber_29 : decode cX7_setNumber 29 = .ok (.bipush (-2), 2) := by decide +kernel
theorem dX7_setNumber_31 : decode cX7_setNumber 31 = .ok (.ireturn, 1) := by decide +kernel
theorem dX7_setNumber_32 : decode cX7_setNumber 32 = .ok (.aload_n 0, 1) := by decide +kernel
theorem dX7_setNumber_33 : decode cX7_setNumber 33 = .ok (.getfield 10, 3) := by decide +kernel
theorem dX7_setNumber_36 : decode cX7_setNumber 36 = .ok (.getfield 72, 3) := by decide +kernel
theorem dX7_setNumber_39 : decode cX7_setNumber 39 = .ok (.iload_n 1, 1) := by decide +kernel
theorem dX7_setNumber_40 : decode cX7_setNumber 40 = .ok (.iaload, 1) := by decide +kernel
theorem dX7_setNumber_41 : decode cX7_setNumber 41 = .ok (.istore_n 3, 1) := by decide +kernel
theorem dX7_setNumber_42 : decode cX7_setNumber 42 = .ok (.iload_n 3, 1) := by decide +kernel
theorem dX7_setNumber_43 : decode cX7_setNumber 43 = .ok (.iload_n 2, 1) := by decide +kernel
theorem dX7_setNumber_44 : decode cX7_setNumber 44 = .ok (.if_icmp .ne 6, 3) := by decide +kernel
theorem dX7_setNumber_47 : decode cX7_setNumber 47 = .ok (.bipush (-5), 2) := by decide +kernel
theorem dX7_setNumber_49 : decode cX7_setNumber 49 = .ok (.ireturn, 1) := by decide +kernel
theorem dX7_setNumber_50 : decode cX7_setNumber 50 = .ok (.aload_n 0, 1) := by decide +kernel
theorem dX7_setNumber_51 : decode cX7_setNumber 51 = .ok (.getfield 25, 3) := by decide +kernel
theorem dX7_setNumber_54 : decode cX7_setNumber 54 = .ok (.aload_n 0, 1) := by decide +kernel
theorem dX7_setNumber_55 : decode cX7_setNumber 55 = .ok (.getfield 10, 3) := by decide +kernel
theorem dX7_setNumber_58 : decode cX7_setNumber 58 = .ok (.invokevirtual 62, 3) := by decide +kernel
theorem dX7_setNumber_61 : decode cX7_setNumber 61 = .ok (.aload_n 0, 1) := by decide +kernel
theorem dX7_setNumber_62 : decode cX7_setNumber 62 = .ok (.getfield 10, 3) := by decide +kernel
theorem dX7_setNumber_65 : decode cX7_setNumber 65 = .ok (.getfield 72, 3) := by decide +kernel
theorem dX7_setNumber_68 : decode cX7_setNumber 68 = .ok (.iload_n 1, 1) := by decide +kernel
theorem dX7_setNumber_69 : decode cX7_setNumber 69 = .ok (.iload_n 2, 1) := by decide +kernel
theorem dX7_setNumber_70 : decode cX7_setNumber 70 = .ok (.iastore, 1) := by decide +kernel
theorem dX7_setNumber_71 : decode cX7_setNumber 71 = .ok (.iload_n 3, 1) := by decide +kernel
theorem dX7_setNumber_72 : decode cX7_setNumber 72 = .ok (.ireturn, 1) := by decide +kernel
theorem dX7_addMember_0 : decode cX7_addMember 0 = .ok (.iload_n 1, 1) := by decide +kernel
theorem dX7_addMember_1 : decode cX7_addMember 1 = .ok (.iconst 1, 1) := by decide +kernel
theorem dX7_addMember_2 : decode cX7_addMember 2 = .ok (.if_icmp .lt 9, 3) := by decide +kernel
theorem dX7_addMember_5 : decode cX7_addMember 5 = .ok (.iload_n 1, 1) := by decide +kernel
theorem dX7_addMember_6 : decode cX7_addMember 6 = .ok (.bipush 9, 2) := by decide +kernel
theorem dX7_addMember_8 : decode cX7_addMember 8 = .ok (.if_icmp .le 6, 3) := by decide +kernel
theorem dX7_addMember_11 : decode cX7_addMember 11 = .ok (.bipush (-2), 2) := by decide +kernel
theorem dX7_addMember_13 : decode cX7_addMember 13 = .ok (.ireturn, 1) := by decide +kernel
theorem dX7_addMember_14 : decode cX7_addMember 14 = .ok (.aload_n 0, 1) := by decide +kernel
theorem dX7_addMember_15 : decode cX7_addMember 15 = .ok (.getfield 10, 3) := by decide +kernel
theorem dX7_addMember_18 : decode cX7_addMember 18 = .ok (.getfield 75, 3) := by decide +kernel
theorem dX7_addMember_21 : decode cX7_addMember 21 = .ok (.getfield 79, 3) := by decide +kernel
theorem dX7_addMember_24 : decode cX7_addMember 24 = .ok (.bipush 8, 2) := by decide +kernel
theorem dX7_addMember_26 : decode cX7_addMember 26 = .ok (.if_icmp .lt 6, 3) := by decide +kernel
theorem dX7_addMember_29 : decode cX7_addMember 29 = .ok (.bipush (-3), 2) := by decide +kernel
theorem dX7_addMember_31 : decode cX7_addMember 31 = .ok (.ireturn, 1) := by decide +kernel
theorem dX7_addMember_32 : decode cX7_addMember 32 = .ok (.aload_n 0, 1) := by decide +kernel
theorem dX7_addMember_33 : decode cX7_addMember 33 = .ok (.getfield 25, 3) := by decide +kernel
theorem dX7_addMember_36 : decode cX7_addMember 36 = .ok (.aload_n 0, 1) := by decide +kernel
theorem dX7_addMember_37 : decode cX7_addMember 37 = .ok (.getfield 10, 3) := by decide +kernel
theorem dX7_addMember_40 : decode cX7_addMember 40 = .ok (.invokevirtual 62, 3) := by decide +kernel
theorem dX7_addMember_43 : decode cX7_addMember 43 = .ok (.aload_n 0, 1) := by decide +kernel
theorem dX7_addMember_44 : decode cX7_addMember 44 = .ok (.getfield 10, 3) := by decide +kernel
theorem dX7_addMember_47 : decode cX7_addMember 47 = .ok (.getfield 75, 3) := by decide +kernel
theorem dX7_addMember_50 : decode cX7_addMember 50 = .ok (.iload_n 1, 1) := by decide +kernel
theorem dX7_addMember_51 : decode cX7_addMember 51 = .ok (.invokevirtual 84, 3) := by decide +kernel
theorem dX7_addMember_54 : decode cX7_addMember 54 = .ok (.ireturn, 1) := by decide +kernel
theorem dX7_payDues_0 : decode cX7_payDues 0 = .ok (.aload_n 0, 1) := by decide +kernel
theorem dX7_payDues_1 : decode cX7_payDues 1 = .ok (.getfield 10, 3) := by decide +kernel
theorem dX7_payDues_4 : decode cX7_payDues 4 = .ok (.getfield 75, 3) := by decide +kernel
theorem dX7_payDues_7 : decode cX7_payDues 7 = .ok (.astore_n 3, 1) := by decide +kernel
theorem dX7_payDues_8 : decode cX7_payDues 8 = .ok (.aload_n 3, 1) := by decide +kernel
theorem dX7_payDues_9 : decode cX7_payDues 9 = .ok (.iload_n 1, 1) := by decide +kernel
theorem dX7_payDues_10 : decode cX7_payDues 10 = .ok (.invokevirtual 88, 3) := by decide +kernel
theorem dX7_payDues_13 : decode cX7_payDues 13 = .ok (.ifCond .ne 5, 3) := by decide +kernel
theorem dX7_payDues_16 : decode cX7_payDues 16 = .ok (.iconst (-1), 1) := by decide +kernel
theorem dX7_payDues_17 : decode cX7_payDues 17 = .ok (.ireturn, 1) := by decide +kernel
theorem dX7_payDues_18 : decode cX7_payDues 18 = .ok (.iload_n 2, 1) := by decide +kernel
theorem dX7_payDues_19 : decode cX7_payDues 19 = .ok (.iconst 1, 1) := by decide +kernel
theorem dX7_payDues_20 : decode cX7_payDues 20 = .ok (.if_icmp .lt 9, 3) := by decide +kernel
theorem dX7_payDues_23 : decode cX7_payDues 23 = .ok (.iload_n 2, 1) := by decide +kernel
theorem dX7_payDues_24 : decode cX7_payDues 24 = .ok (.ldc 92, 2) := by decide +kernel
theorem dX7_payDues_26 : decode cX7_payDues 26 = .ok (.if_icmp .le 6, 3) := by decide +kernel
theorem dX7_payDues_29 : decode cX7_payDues 29 = .ok (.bipush (-2), 2) := by decide +kernel
theorem dX7_payDues_31 : decode cX7_payDues 31 = .ok (.ireturn, 1) := by decide +kernel
theorem dX7_payDues_32 : decode cX7_payDues 32 = .ok (.aload_n 3, 1) := by decide +kernel
theorem dX7_payDues_33 : decode cX7_payDues 33 = .ok (.getfield 93, 3) := by decide +kernel
theorem dX7_payDues_36 : decode cX7_payDues 36 = .ok (.iload_n 1, 1) := by decide +kernel
theorem dX7_payDues_37 : decode cX7_payDues 37 = .ok (.iaload, 1) := by decide +kernel
theorem dX7_payDues_38 : decode cX7_payDues 38 = .ok (.iload_n 2, 1) := by decide +kernel
theorem dX7_payDues_39 : decode cX7_payDues 39 = .ok (.iadd, 1) := by decide +kernel
theorem dX7_payDues_40 : decode cX7_payDues 40 = .ok (.ldc 96, 2) := by decide +kernel
theorem dX7_payDues_42 : decode cX7_payDues 42 = .ok (.if_icmp .le 6, 3) := by decide +kernel
theorem dX7_payDues_45 : decode cX7_payDues 45 = .ok (.bipush (-3), 2) := by decide +kernel
theorem dX7_payDues_47 : decode cX7_payDues 47 = .ok (.ireturn, 1) := by decide +kernel
theorem dX7_payDues_48 : decode cX7_payDues 48 = .ok (.aload_n 0, 1) := by decide +kernel
theorem dX7_payDues_49 : decode cX7_payDues 49 = .ok (.getfield 25, 3) := by decide +kernel
theorem dX7_payDues_52 : decode cX7_payDues 52 = .ok (.aload_n 0, 1) := by decide +kernel
theorem dX7_payDues_53 : decode cX7_payDues 53 = .ok (.getfield 10, 3) := by decide +kernel
theorem dX7_payDues_56 : decode cX7_payDues 56 = .ok (.invokevirtual 62, 3) := by decide +kernel
theorem dX7_payDues_59 : decode cX7_payDues 59 = .ok (.aload_n 3, 1) := by decide +kernel
theorem dX7_payDues_60 : decode cX7_payDues 60 = .ok (.getfield 93, 3) := by decide +kernel
theorem dX7_payDues_63 : decode cX7_payDues 63 = .ok (.iload_n 1, 1) := by decide +kernel
theorem dX7_payDues_64 : decode cX7_payDues 64 = .ok (.dup2, 1) := by decide +kernel
theorem dX7_payDues_65 : decode cX7_payDues 65 = .ok (.iaload, 1) := by decide +kernel
theorem dX7_payDues_66 : decode cX7_payDues 66 = .ok (.iload_n 2, 1) := by decide +kernel
theorem dX7_payDues_67 : decode cX7_payDues 67 = .ok (.iadd, 1) := by decide +kernel
theorem dX7_payDues_68 : decode cX7_payDues 68 = .ok (.iastore, 1) := by decide +kernel
theorem dX7_payDues_69 : decode cX7_payDues 69 = .ok (.aload_n 0, 1) := by decide +kernel
theorem dX7_payDues_70 : decode cX7_payDues 70 = .ok (.getfield 10, 3) := by decide +kernel
theorem dX7_payDues_73 : decode cX7_payDues 73 = .ok (.dup, 1) := by decide +kernel
theorem dX7_payDues_74 : decode cX7_payDues 74 = .ok (.getfield 97, 3) := by decide +kernel
theorem dX7_payDues_77 : decode cX7_payDues 77 = .ok (.iload_n 2, 1) := by decide +kernel
theorem dX7_payDues_78 : decode cX7_payDues 78 = .ok (.iadd, 1) := by decide +kernel
theorem dX7_payDues_79 : decode cX7_payDues 79 = .ok (.putfield 97, 3) := by decide +kernel
theorem dX7_payDues_82 : decode cX7_payDues 82 = .ok (.aload_n 3, 1) := by decide +kernel
theorem dX7_payDues_83 : decode cX7_payDues 83 = .ok (.getfield 93, 3) := by decide +kernel
theorem dX7_payDues_86 : decode cX7_payDues 86 = .ok (.iload_n 1, 1) := by decide +kernel
theorem dX7_payDues_87 : decode cX7_payDues 87 = .ok (.iaload, 1) := by decide +kernel
theorem dX7_payDues_88 : decode cX7_payDues 88 = .ok (.ireturn, 1) := by decide +kernel
theorem dX7_addInvoice_0 : decode cX7_addInvoice 0 = .ok (.aload_n 0, 1) := by decide +kernel
theorem dX7_addInvoice_1 : decode cX7_addInvoice 1 = .ok (.getfield 10, 3) := by decide +kernel
theorem dX7_addInvoice_4 : decode cX7_addInvoice 4 = .ok (.getfield 75, 3) := by decide +kernel
theorem dX7_addInvoice_7 : decode cX7_addInvoice 7 = .ok (.iload_n 1, 1) := by decide +kernel
theorem dX7_addInvoice_8 : decode cX7_addInvoice 8 = .ok (.invokevirtual 88, 3) := by decide +kernel
theorem dX7_addInvoice_11 : decode cX7_addInvoice 11 = .ok (.ifCond .eq 17, 3) := by decide +kernel
theorem dX7_addInvoice_14 : decode cX7_addInvoice 14 = .ok (.aload_n 0, 1) := by decide +kernel
theorem dX7_addInvoice_15 : decode cX7_addInvoice 15 = .ok (.getfield 10, 3) := by decide +kernel
theorem dX7_addInvoice_18 : decode cX7_addInvoice 18 = .ok (.getfield 100, 3) := by decide +kernel
theorem dX7_addInvoice_21 : decode cX7_addInvoice 21 = .ok (.iload_n 2, 1) := by decide +kernel
theorem dX7_addInvoice_22 : decode cX7_addInvoice 22 = .ok (.invokevirtual 104, 3) := by decide +kernel
theorem dX7_addInvoice_25 : decode cX7_addInvoice 25 = .ok (.ifCond .ne 5, 3) := by decide +kernel
theorem dX7_addInvoice_28 : decode cX7_addInvoice 28 = .ok (.iconst (-1), 1) := by decide +kernel
theorem dX7_addInvoice_29 : decode cX7_addInvoice 29 = .ok (.ireturn, 1) := by decide +kernel
theorem dX7_addInvoice_30 : decode cX7_addInvoice 30 = .ok (.iload_n 3, 1) := by decide +kernel
theorem dX7_addInvoice_31 : decode cX7_addInvoice 31 = .ok (.bipush 100, 2) := by decide +kernel
theorem dX7_addInvoice_33 : decode cX7_addInvoice 33 = .ok (.if_icmp .lt 9, 3) := by decide +kernel
theorem dX7_addInvoice_36 : decode cX7_addInvoice 36 = .ok (.iload_n 3, 1) := by decide +kernel
theorem dX7_addInvoice_37 : decode cX7_addInvoice 37 = .ok (.ldc 92, 2) := by decide +kernel
theorem dX7_addInvoice_39 : decode cX7_addInvoice 39 = .ok (.if_icmp .le 6, 3) := by decide +kernel
theorem dX7_addInvoice_42 : decode cX7_addInvoice 42 = .ok (.bipush (-2), 2) := by decide +kernel
theorem dX7_addInvoice_44 : decode cX7_addInvoice 44 = .ok (.ireturn, 1) := by decide +kernel
theorem dX7_addInvoice_45 : decode cX7_addInvoice 45 = .ok (.iload 4, 2) := by decide +kernel
theorem dX7_addInvoice_47 : decode cX7_addInvoice 47 = .ok (.ifCond .lt 11, 3) := by decide +kernel
theorem dX7_addInvoice_50 : decode cX7_addInvoice 50 = .ok (.iload 4, 2) := by decide +kernel
theorem dX7_addInvoice_52 : decode cX7_addInvoice 52 = .ok (.sipush 9999, 3) := by decide +kernel
theorem dX7_addInvoice_55 : decode cX7_addInvoice 55 = .ok (.if_icmp .le 6, 3) := by decide +kernel
theorem dX7_addInvoice_58 : decode cX7_addInvoice 58 = .ok (.bipush (-2), 2) := by decide +kernel
theorem dX7_addInvoice_60 : decode cX7_addInvoice 60 = .ok (.ireturn, 1) := by decide +kernel
theorem dX7_addInvoice_61 : decode cX7_addInvoice 61 = .ok (.aload_n 0, 1) := by decide +kernel
theorem dX7_addInvoice_62 : decode cX7_addInvoice 62 = .ok (.getfield 10, 3) := by decide +kernel
theorem dX7_addInvoice_65 : decode cX7_addInvoice 65 = .ok (.getfield 107, 3) := by decide +kernel
theorem dX7_addInvoice_68 : decode cX7_addInvoice 68 = .ok (.getfield 111, 3) := by decide +kernel
theorem dX7_addInvoice_71 : decode cX7_addInvoice 71 = .ok (.bipush 20, 2) := by decide +kernel
theorem dX7_addInvoice_73 : decode cX7_addInvoice 73 = .ok (.if_icmp .lt 6, 3) := by decide +kernel
theorem dX7_addInvoice_76 : decode cX7_addInvoice 76 = .ok (.bipush (-3), 2) := by decide +kernel
theorem dX7_addInvoice_78 : decode cX7_addInvoice 78 = .ok (.ireturn, 1) := by decide +kernel
theorem dX7_addInvoice_79 : decode cX7_addInvoice 79 = .ok (.aload_n 0, 1) := by decide +kernel
theorem dX7_addInvoice_80 : decode cX7_addInvoice 80 = .ok (.getfield 25, 3) := by decide +kernel
theorem dX7_addInvoice_83 : decode cX7_addInvoice 83 = .ok (.aload_n 0, 1) := by decide +kernel
theorem dX7_addInvoice_84 : decode cX7_addInvoice 84 = .ok (.getfield 10, 3) := by decide +kernel
theorem dX7_addInvoice_87 : decode cX7_addInvoice 87 = .ok (.invokevirtual 62, 3) := by decide +kernel
theorem dX7_addInvoice_90 : decode cX7_addInvoice 90 = .ok (.aload_n 0, 1) := by decide +kernel
theorem dX7_addInvoice_91 : decode cX7_addInvoice 91 = .ok (.getfield 10, 3) := by decide +kernel
theorem dX7_addInvoice_94 : decode cX7_addInvoice 94 = .ok (.getfield 107, 3) := by decide +kernel
theorem dX7_addInvoice_97 : decode cX7_addInvoice 97 = .ok (.iload_n 1, 1) := by decide +kernel
theorem dX7_addInvoice_98 : decode cX7_addInvoice 98 = .ok (.iload_n 2, 1) := by decide +kernel
theorem dX7_addInvoice_99 : decode cX7_addInvoice 99 = .ok (.iload_n 3, 1) := by decide +kernel
theorem dX7_addInvoice_100 : decode cX7_addInvoice 100 = .ok (.iload 4, 2) := by decide +kernel
theorem dX7_addInvoice_102 : decode cX7_addInvoice 102 = .ok (.invokevirtual 114, 3) := by decide +kernel
theorem dX7_addInvoice_105 : decode cX7_addInvoice 105 = .ok (.ireturn, 1) := by decide +kernel
theorem dX7_payAhead_0 : decode cX7_payAhead 0 = .ok (.aload_n 0, 1) := by decide +kernel
theorem dX7_payAhead_1 : decode cX7_payAhead 1 = .ok (.getfield 10, 3) := by decide +kernel
theorem dX7_payAhead_4 : decode cX7_payAhead 4 = .ok (.getfield 107, 3) := by decide +kernel
theorem dX7_payAhead_7 : decode cX7_payAhead 7 = .ok (.iload_n 1, 1) := by decide +kernel
theorem dX7_payAhead_8 : decode cX7_payAhead 8 = .ok (.invokevirtual 117, 3) := by decide +kernel
theorem dX7_payAhead_11 : decode cX7_payAhead 11 = .ok (.ifCond .ne 5, 3) := by decide +kernel
theorem dX7_payAhead_14 : decode cX7_payAhead 14 = .ok (.iconst (-1), 1) := by decide +kernel
theorem dX7_payAhead_15 : decode cX7_payAhead 15 = .ok (.ireturn, 1) := by decide +kernel
theorem dX7_payAhead_16 : decode cX7_payAhead 16 = .ok (.aload_n 0, 1) := by decide +kernel
theorem dX7_payAhead_17 : decode cX7_payAhead 17 = .ok (.getfield 10, 3) := by decide +kernel
theorem dX7_payAhead_20 : decode cX7_payAhead 20 = .ok (.iload_n 1, 1) := by decide +kernel
theorem dX7_payAhead_21 : decode cX7_payAhead 21 = .ok (.invokevirtual 118, 3) := by decide +kernel
theorem dX7_payAhead_24 : decode cX7_payAhead 24 = .ok (.ifCond .ne 6, 3) := by decide +kernel
theorem dX7_payAhead_27 : decode cX7_payAhead 27 = .ok (.bipush (-4), 2) := by decide +kernel
theorem dX7_payAhead_29 : decode cX7_payAhead 29 = .ok (.ireturn, 1) := by decide +kernel
theorem dX7_payAhead_30 : decode cX7_payAhead 30 = .ok (.aload_n 0, 1) := by decide +kernel
theorem dX7_payAhead_31 : decode cX7_payAhead 31 = .ok (.getfield 25, 3) := by decide +kernel
theorem dX7_payAhead_34 : decode cX7_payAhead 34 = .ok (.aload_n 0, 1) := by decide +kernel
theorem dX7_payAhead_35 : decode cX7_payAhead 35 = .ok (.getfield 10, 3) := by decide +kernel
theorem dX7_payAhead_38 : decode cX7_payAhead 38 = .ok (.invokevirtual 62, 3) := by decide +kernel
theorem dX7_payAhead_41 : decode cX7_payAhead 41 = .ok (.aload_n 0, 1) := by decide +kernel
theorem dX7_payAhead_42 : decode cX7_payAhead 42 = .ok (.getfield 10, 3) := by decide +kernel
theorem dX7_payAhead_45 : decode cX7_payAhead 45 = .ok (.iload_n 1, 1) := by decide +kernel
theorem dX7_payAhead_46 : decode cX7_payAhead 46 = .ok (.invokevirtual 121, 3) := by decide +kernel
theorem dX7_payAhead_49 : decode cX7_payAhead 49 = .ok (.ireturn, 1) := by decide +kernel
theorem dX7_pay_0 : decode cX7_pay 0 = .ok (.aload_n 0, 1) := by decide +kernel
theorem dX7_pay_1 : decode cX7_pay 1 = .ok (.getfield 10, 3) := by decide +kernel
theorem dX7_pay_4 : decode cX7_pay 4 = .ok (.iload_n 1, 1) := by decide +kernel
theorem dX7_pay_5 : decode cX7_pay 5 = .ok (.iload_n 2, 1) := by decide +kernel
theorem dX7_pay_6 : decode cX7_pay 6 = .ok (.invokevirtual 124, 3) := by decide +kernel
theorem dX7_pay_9 : decode cX7_pay 9 = .ok (.istore_n 3, 1) := by decide +kernel
theorem dX7_pay_10 : decode cX7_pay 10 = .ok (.iload_n 3, 1) := by decide +kernel
theorem dX7_pay_11 : decode cX7_pay 11 = .ok (.ifCond .eq 5, 3) := by decide +kernel
theorem dX7_pay_14 : decode cX7_pay 14 = .ok (.iload_n 3, 1) := by decide +kernel
theorem dX7_pay_15 : decode cX7_pay 15 = .ok (.ireturn, 1) := by decide +kernel
theorem dX7_pay_16 : decode cX7_pay 16 = .ok (.aload_n 0, 1) := by decide +kernel
theorem dX7_pay_17 : decode cX7_pay 17 = .ok (.getfield 25, 3) := by decide +kernel
theorem dX7_pay_20 : decode cX7_pay 20 = .ok (.aload_n 0, 1) := by decide +kernel
theorem dX7_pay_21 : decode cX7_pay 21 = .ok (.getfield 10, 3) := by decide +kernel
theorem dX7_pay_24 : decode cX7_pay 24 = .ok (.invokevirtual 62, 3) := by decide +kernel
theorem dX7_pay_27 : decode cX7_pay 27 = .ok (.aload_n 0, 1) := by decide +kernel
theorem dX7_pay_28 : decode cX7_pay 28 = .ok (.getfield 10, 3) := by decide +kernel
theorem dX7_pay_31 : decode cX7_pay 31 = .ok (.iload_n 1, 1) := by decide +kernel
theorem dX7_pay_32 : decode cX7_pay 32 = .ok (.iload_n 2, 1) := by decide +kernel
theorem dX7_pay_33 : decode cX7_pay 33 = .ok (.invokevirtual 128, 3) := by decide +kernel
theorem dX7_pay_36 : decode cX7_pay 36 = .ok (.ireturn, 1) := by decide +kernel
theorem dX7_giveUp_0 : decode cX7_giveUp 0 = .ok (.aload_n 0, 1) := by decide +kernel
theorem dX7_giveUp_1 : decode cX7_giveUp 1 = .ok (.getfield 10, 3) := by decide +kernel
theorem dX7_giveUp_4 : decode cX7_giveUp 4 = .ok (.getfield 107, 3) := by decide +kernel
theorem dX7_giveUp_7 : decode cX7_giveUp 7 = .ok (.iload_n 1, 1) := by decide +kernel
theorem dX7_giveUp_8 : decode cX7_giveUp 8 = .ok (.invokevirtual 117, 3) := by decide +kernel
theorem dX7_giveUp_11 : decode cX7_giveUp 11 = .ok (.ifCond .ne 5, 3) := by decide +kernel
theorem dX7_giveUp_14 : decode cX7_giveUp 14 = .ok (.iconst (-1), 1) := by decide +kernel
theorem dX7_giveUp_15 : decode cX7_giveUp 15 = .ok (.ireturn, 1) := by decide +kernel
theorem dX7_giveUp_16 : decode cX7_giveUp 16 = .ok (.aload_n 0, 1) := by decide +kernel
theorem dX7_giveUp_17 : decode cX7_giveUp 17 = .ok (.getfield 10, 3) := by decide +kernel
theorem dX7_giveUp_20 : decode cX7_giveUp 20 = .ok (.iload_n 1, 1) := by decide +kernel
theorem dX7_giveUp_21 : decode cX7_giveUp 21 = .ok (.invokevirtual 131, 3) := by decide +kernel
theorem dX7_giveUp_24 : decode cX7_giveUp 24 = .ok (.ifCond .ne 6, 3) := by decide +kernel
theorem dX7_giveUp_27 : decode cX7_giveUp 27 = .ok (.bipush (-4), 2) := by decide +kernel
theorem dX7_giveUp_29 : decode cX7_giveUp 29 = .ok (.ireturn, 1) := by decide +kernel
theorem dX7_giveUp_30 : decode cX7_giveUp 30 = .ok (.aload_n 0, 1) := by decide +kernel
theorem dX7_giveUp_31 : decode cX7_giveUp 31 = .ok (.getfield 25, 3) := by decide +kernel
theorem dX7_giveUp_34 : decode cX7_giveUp 34 = .ok (.aload_n 0, 1) := by decide +kernel
theorem dX7_giveUp_35 : decode cX7_giveUp 35 = .ok (.getfield 10, 3) := by decide +kernel
theorem dX7_giveUp_38 : decode cX7_giveUp 38 = .ok (.invokevirtual 62, 3) := by decide +kernel
theorem dX7_giveUp_41 : decode cX7_giveUp 41 = .ok (.aload_n 0, 1) := by decide +kernel
theorem dX7_giveUp_42 : decode cX7_giveUp 42 = .ok (.getfield 10, 3) := by decide +kernel
theorem dX7_giveUp_45 : decode cX7_giveUp 45 = .ok (.iload_n 1, 1) := by decide +kernel
theorem dX7_giveUp_46 : decode cX7_giveUp 46 = .ok (.invokevirtual 134, 3) := by decide +kernel
theorem dX7_giveUp_49 : decode cX7_giveUp 49 = .ok (.ireturn, 1) := by decide +kernel
theorem dX7_pass_0 : decode cX7_pass 0 = .ok (.iload_n 1, 1) := by decide +kernel
theorem dX7_pass_1 : decode cX7_pass 1 = .ok (.iconst 1, 1) := by decide +kernel
theorem dX7_pass_2 : decode cX7_pass 2 = .ok (.if_icmp .lt 10, 3) := by decide +kernel
theorem dX7_pass_5 : decode cX7_pass 5 = .ok (.iload_n 1, 1) := by decide +kernel
theorem dX7_pass_6 : decode cX7_pass 6 = .ok (.sipush 365, 3) := by decide +kernel
theorem dX7_pass_9 : decode cX7_pass 9 = .ok (.if_icmp .le 6, 3) := by decide +kernel
theorem dX7_pass_12 : decode cX7_pass 12 = .ok (.bipush (-2), 2) := by decide +kernel
theorem dX7_pass_14 : decode cX7_pass 14 = .ok (.ireturn, 1) := by decide +kernel
theorem dX7_pass_15 : decode cX7_pass 15 = .ok (.aload_n 0, 1) := by decide +kernel
theorem dX7_pass_16 : decode cX7_pass 16 = .ok (.getfield 10, 3) := by decide +kernel
theorem dX7_pass_19 : decode cX7_pass 19 = .ok (.getfield 156, 3) := by decide +kernel
theorem dX7_pass_22 : decode cX7_pass 22 = .ok (.iload_n 1, 1) := by decide +kernel
theorem dX7_pass_23 : decode cX7_pass 23 = .ok (.iadd, 1) := by decide +kernel
theorem dX7_pass_24 : decode cX7_pass 24 = .ok (.ldc 159, 2) := by decide +kernel
theorem dX7_pass_26 : decode cX7_pass 26 = .ok (.if_icmp .le 6, 3) := by decide +kernel
theorem dX7_pass_29 : decode cX7_pass 29 = .ok (.bipush (-4), 2) := by decide +kernel
theorem dX7_pass_31 : decode cX7_pass 31 = .ok (.ireturn, 1) := by decide +kernel
theorem dX7_pass_32 : decode cX7_pass 32 = .ok (.aload_n 0, 1) := by decide +kernel
theorem dX7_pass_33 : decode cX7_pass 33 = .ok (.getfield 25, 3) := by decide +kernel
theorem dX7_pass_36 : decode cX7_pass 36 = .ok (.aload_n 0, 1) := by decide +kernel
theorem dX7_pass_37 : decode cX7_pass 37 = .ok (.getfield 10, 3) := by decide +kernel
theorem dX7_pass_40 : decode cX7_pass 40 = .ok (.invokevirtual 62, 3) := by decide +kernel
theorem dX7_pass_43 : decode cX7_pass 43 = .ok (.aload_n 0, 1) := by decide +kernel
theorem dX7_pass_44 : decode cX7_pass 44 = .ok (.getfield 10, 3) := by decide +kernel
theorem dX7_pass_47 : decode cX7_pass 47 = .ok (.dup, 1) := by decide +kernel
theorem dX7_pass_48 : decode cX7_pass 48 = .ok (.getfield 156, 3) := by decide +kernel
theorem dX7_pass_51 : decode cX7_pass 51 = .ok (.iload_n 1, 1) := by decide +kernel
theorem dX7_pass_52 : decode cX7_pass 52 = .ok (.iadd, 1) := by decide +kernel
theorem dX7_pass_53 : decode cX7_pass 53 = .ok (.putfield 156, 3) := by decide +kernel
theorem dX7_pass_56 : decode cX7_pass 56 = .ok (.aload_n 0, 1) := by decide +kernel
theorem dX7_pass_57 : decode cX7_pass 57 = .ok (.getfield 10, 3) := by decide +kernel
theorem dX7_pass_60 : decode cX7_pass 60 = .ok (.getfield 156, 3) := by decide +kernel
theorem dX7_pass_63 : decode cX7_pass 63 = .ok (.ireturn, 1) := by decide +kernel
theorem dX7_undo_0 : decode cX7_undo 0 = .ok (.aload_n 0, 1) := by decide +kernel
theorem dX7_undo_1 : decode cX7_undo 1 = .ok (.getfield 25, 3) := by decide +kernel
theorem dX7_undo_4 : decode cX7_undo 4 = .ok (.getfield 166, 3) := by decide +kernel
theorem dX7_undo_7 : decode cX7_undo 7 = .ok (.ifCond .ne 6, 3) := by decide +kernel
theorem dX7_undo_10 : decode cX7_undo 10 = .ok (.bipush (-5), 2) := by decide +kernel
theorem dX7_undo_12 : decode cX7_undo 12 = .ok (.ireturn, 1) := by decide +kernel
theorem dX7_undo_13 : decode cX7_undo 13 = .ok (.aload_n 0, 1) := by decide +kernel
theorem dX7_undo_14 : decode cX7_undo 14 = .ok (.getfield 25, 3) := by decide +kernel
theorem dX7_undo_17 : decode cX7_undo 17 = .ok (.aload_n 0, 1) := by decide +kernel
theorem dX7_undo_18 : decode cX7_undo 18 = .ok (.getfield 10, 3) := by decide +kernel
theorem dX7_undo_21 : decode cX7_undo 21 = .ok (.invokevirtual 167, 3) := by decide +kernel
theorem dX7_undo_24 : decode cX7_undo 24 = .ok (.aload_n 0, 1) := by decide +kernel
theorem dX7_undo_25 : decode cX7_undo 25 = .ok (.getfield 25, 3) := by decide +kernel
theorem dX7_undo_28 : decode cX7_undo 28 = .ok (.getfield 166, 3) := by decide +kernel
theorem dX7_undo_31 : decode cX7_undo 31 = .ok (.ireturn, 1) := by decide +kernel
theorem dX7_member_0 : decode cX7_member 0 = .ok (.aload_n 0, 1) := by decide +kernel
theorem dX7_member_1 : decode cX7_member 1 = .ok (.getfield 10, 3) := by decide +kernel
theorem dX7_member_4 : decode cX7_member 4 = .ok (.getfield 75, 3) := by decide +kernel
theorem dX7_member_7 : decode cX7_member 7 = .ok (.astore_n 3, 1) := by decide +kernel
theorem dX7_member_8 : decode cX7_member 8 = .ok (.aload_n 3, 1) := by decide +kernel
theorem dX7_member_9 : decode cX7_member 9 = .ok (.iload_n 1, 1) := by decide +kernel
theorem dX7_member_10 : decode cX7_member 10 = .ok (.invokevirtual 88, 3) := by decide +kernel
theorem dX7_member_13 : decode cX7_member 13 = .ok (.ifCond .ne 5, 3) := by decide +kernel
theorem dX7_member_16 : decode cX7_member 16 = .ok (.iconst (-1), 1) := by decide +kernel
theorem dX7_member_17 : decode cX7_member 17 = .ok (.ireturn, 1) := by decide +kernel
theorem dX7_member_18 : decode cX7_member 18 = .ok (.iload_n 2, 1) := by decide +kernel
theorem dX7_member_19 : decode cX7_member 19 = .ok (.tableswitch 95 0 5 #[37, 44, 51, 61, 73, 85], 37) := by decide +kernel
theorem dX7_member_56 : decode cX7_member 56 = .ok (.aload_n 3, 1) := by decide +kernel
theorem dX7_member_57 : decode cX7_member 57 = .ok (.getfield 178, 3) := by decide +kernel
theorem dX7_member_60 : decode cX7_member 60 = .ok (.iload_n 1, 1) := by decide +kernel
theorem dX7_member_61 : decode cX7_member 61 = .ok (.iaload, 1) := by decide +kernel
theorem dX7_member_62 : decode cX7_member 62 = .ok (.ireturn, 1) := by decide +kernel
theorem dX7_member_63 : decode cX7_member 63 = .ok (.aload_n 3, 1) := by decide +kernel
theorem dX7_member_64 : decode cX7_member 64 = .ok (.getfield 93, 3) := by decide +kernel
theorem dX7_member_67 : decode cX7_member 67 = .ok (.iload_n 1, 1) := by decide +kernel
theorem dX7_member_68 : decode cX7_member 68 = .ok (.iaload, 1) := by decide +kernel
theorem dX7_member_69 : decode cX7_member 69 = .ok (.ireturn, 1) := by decide +kernel
theorem dX7_member_70 : decode cX7_member 70 = .ok (.aload_n 3, 1) := by decide +kernel
theorem dX7_member_71 : decode cX7_member 71 = .ok (.getfield 181, 3) := by decide +kernel
theorem dX7_member_74 : decode cX7_member 74 = .ok (.iload_n 1, 1) := by decide +kernel
theorem dX7_member_75 : decode cX7_member 75 = .ok (.iaload, 1) := by decide +kernel
theorem dX7_member_76 : decode cX7_member 76 = .ok (.ldc 184, 2) := by decide +kernel
theorem dX7_member_78 : decode cX7_member 78 = .ok (.iadd, 1) := by decide +kernel
theorem dX7_member_79 : decode cX7_member 79 = .ok (.ireturn, 1) := by decide +kernel
theorem dX7_member_80 : decode cX7_member 80 = .ok (.aload_n 0, 1) := by decide +kernel
theorem dX7_member_81 : decode cX7_member 81 = .ok (.getfield 10, 3) := by decide +kernel
theorem dX7_member_84 : decode cX7_member 84 = .ok (.getfield 107, 3) := by decide +kernel
theorem dX7_member_87 : decode cX7_member 87 = .ok (.iload_n 1, 1) := by decide +kernel
theorem dX7_member_88 : decode cX7_member 88 = .ok (.invokevirtual 185, 3) := by decide +kernel
theorem dX7_member_91 : decode cX7_member 91 = .ok (.ireturn, 1) := by decide +kernel
theorem dX7_member_92 : decode cX7_member 92 = .ok (.aload_n 0, 1) := by decide +kernel
theorem dX7_member_93 : decode cX7_member 93 = .ok (.getfield 10, 3) := by decide +kernel
theorem dX7_member_96 : decode cX7_member 96 = .ok (.getfield 107, 3) := by decide +kernel
theorem dX7_member_99 : decode cX7_member 99 = .ok (.iload_n 1, 1) := by decide +kernel
theorem dX7_member_100 : decode cX7_member 100 = .ok (.invokevirtual 188, 3) := by decide +kernel
theorem dX7_member_103 : decode cX7_member 103 = .ok (.ireturn, 1) := by decide +kernel
theorem dX7_member_104 : decode cX7_member 104 = .ok (.aload_n 3, 1) := by decide +kernel
theorem dX7_member_105 : decode cX7_member 105 = .ok (.getfield 191, 3) := by decide +kernel
theorem dX7_member_108 : decode cX7_member 108 = .ok (.iload_n 1, 1) := by decide +kernel
theorem dX7_member_109 : decode cX7_member 109 = .ok (.iaload, 1) := by decide +kernel
theorem dX7_member_110 : decode cX7_member 110 = .ok (.ldc 184, 2) := by decide +kernel
theorem dX7_member_112 : decode cX7_member 112 = .ok (.iadd, 1) := by decide +kernel
theorem dX7_member_113 : decode cX7_member 113 = .ok (.ireturn, 1) := by decide +kernel
theorem dX7_member_114 : decode cX7_member 114 = .ok (.bipush (-2), 2) := by decide +kernel
theorem dX7_member_116 : decode cX7_member 116 = .ok (.ireturn, 1) := by decide +kernel
theorem dX7_client_0 : decode cX7_client 0 = .ok (.aload_n 0, 1) := by decide +kernel
theorem dX7_client_1 : decode cX7_client 1 = .ok (.getfield 10, 3) := by decide +kernel
theorem dX7_client_4 : decode cX7_client 4 = .ok (.getfield 100, 3) := by decide +kernel
theorem dX7_client_7 : decode cX7_client 7 = .ok (.astore_n 3, 1) := by decide +kernel
theorem dX7_client_8 : decode cX7_client 8 = .ok (.aload_n 3, 1) := by decide +kernel
theorem dX7_client_9 : decode cX7_client 9 = .ok (.iload_n 1, 1) := by decide +kernel
theorem dX7_client_10 : decode cX7_client 10 = .ok (.invokevirtual 104, 3) := by decide +kernel
theorem dX7_client_13 : decode cX7_client 13 = .ok (.ifCond .ne 5, 3) := by decide +kernel
theorem dX7_client_16 : decode cX7_client 16 = .ok (.iconst (-1), 1) := by decide +kernel
theorem dX7_client_17 : decode cX7_client 17 = .ok (.ireturn, 1) := by decide +kernel
theorem dX7_client_18 : decode cX7_client 18 = .ok (.iload_n 2, 1) := by decide +kernel
theorem dX7_client_19 : decode cX7_client 19 = .ok (.tableswitch 62 0 3 #[29, 36, 43, 50], 29) := by decide +kernel
theorem dX7_client_48 : decode cX7_client 48 = .ok (.aload_n 3, 1) := by decide +kernel
theorem dX7_client_49 : decode cX7_client 49 = .ok (.getfield 194, 3) := by decide +kernel
theorem dX7_client_52 : decode cX7_client 52 = .ok (.iload_n 1, 1) := by decide +kernel
theorem dX7_client_53 : decode cX7_client 53 = .ok (.iaload, 1) := by decide +kernel
theorem dX7_client_54 : decode cX7_client 54 = .ok (.ireturn, 1) := by decide +kernel
theorem dX7_client_55 : decode cX7_client 55 = .ok (.aload_n 3, 1) := by decide +kernel
theorem dX7_client_56 : decode cX7_client 56 = .ok (.getfield 197, 3) := by decide +kernel
theorem dX7_client_59 : decode cX7_client 59 = .ok (.iload_n 1, 1) := by decide +kernel
theorem dX7_client_60 : decode cX7_client 60 = .ok (.iaload, 1) := by decide +kernel
theorem dX7_client_61 : decode cX7_client 61 = .ok (.ireturn, 1) := by decide +kernel
theorem dX7_client_62 : decode cX7_client 62 = .ok (.aload_n 3, 1) := by decide +kernel
theorem dX7_client_63 : decode cX7_client 63 = .ok (.getfield 200, 3) := by decide +kernel
theorem dX7_client_66 : decode cX7_client 66 = .ok (.iload_n 1, 1) := by decide +kernel
theorem dX7_client_67 : decode cX7_client 67 = .ok (.iaload, 1) := by decide +kernel
theorem dX7_client_68 : decode cX7_client 68 = .ok (.ireturn, 1) := by decide +kernel
theorem dX7_client_69 : decode cX7_client 69 = .ok (.aload_n 0, 1) := by decide +kernel
theorem dX7_client_70 : decode cX7_client 70 = .ok (.getfield 10, 3) := by decide +kernel
theorem dX7_client_73 : decode cX7_client 73 = .ok (.getfield 107, 3) := by decide +kernel
theorem dX7_client_76 : decode cX7_client 76 = .ok (.iload_n 1, 1) := by decide +kernel
theorem dX7_client_77 : decode cX7_client 77 = .ok (.invokevirtual 203, 3) := by decide +kernel
theorem dX7_client_80 : decode cX7_client 80 = .ok (.ireturn, 1) := by decide +kernel
theorem dX7_client_81 : decode cX7_client 81 = .ok (.bipush (-2), 2) := by decide +kernel
theorem dX7_client_83 : decode cX7_client 83 = .ok (.ireturn, 1) := by decide +kernel
theorem dX7_invoice_0 : decode cX7_invoice 0 = .ok (.aload_n 0, 1) := by decide +kernel
theorem dX7_invoice_1 : decode cX7_invoice 1 = .ok (.getfield 10, 3) := by decide +kernel
theorem dX7_invoice_4 : decode cX7_invoice 4 = .ok (.getfield 107, 3) := by decide +kernel
theorem dX7_invoice_7 : decode cX7_invoice 7 = .ok (.astore_n 3, 1) := by decide +kernel
theorem dX7_invoice_8 : decode cX7_invoice 8 = .ok (.aload_n 3, 1) := by decide +kernel
theorem dX7_invoice_9 : decode cX7_invoice 9 = .ok (.iload_n 1, 1) := by decide +kernel
theorem dX7_invoice_10 : decode cX7_invoice 10 = .ok (.invokevirtual 117, 3) := by decide +kernel
theorem dX7_invoice_13 : decode cX7_invoice 13 = .ok (.ifCond .ne 5, 3) := by decide +kernel
theorem dX7_invoice_16 : decode cX7_invoice 16 = .ok (.iconst (-1), 1) := by decide +kernel
theorem dX7_invoice_17 : decode cX7_invoice 17 = .ok (.ireturn, 1) := by decide +kernel
theorem dX7_invoice_18 : decode cX7_invoice 18 = .ok (.iload_n 2, 1) := by decide +kernel
theorem dX7_invoice_19 : decode cX7_invoice 19 = .ok (.tableswitch 162 0 10 #[57, 64, 71, 78, 85, 92, 99, 106, 118, 128, 145], 57) := by decide +kernel
theorem dX7_invoice_76 : decode cX7_invoice 76 = .ok (.aload_n 3, 1) := by decide +kernel
theorem dX7_invoice_77 : decode cX7_invoice 77 = .ok (.getfield 212, 3) := by decide +kernel
theorem dX7_invoice_80 : decode cX7_invoice 80 = .ok (.iload_n 1, 1) := by decide +kernel
theorem dX7_invoice_81 : decode cX7_invoice 81 = .ok (.iaload, 1) := by decide +kernel
theorem dX7_invoice_82 : decode cX7_invoice 82 = .ok (.ireturn, 1) := by decide +kernel
theorem dX7_invoice_83 : decode cX7_invoice 83 = .ok (.aload_n 3, 1) := by decide +kernel
theorem dX7_invoice_84 : decode cX7_invoice 84 = .ok (.getfield 215, 3) := by decide +kernel
theorem dX7_invoice_87 : decode cX7_invoice 87 = .ok (.iload_n 1, 1) := by decide +kernel
theorem dX7_invoice_88 : decode cX7_invoice 88 = .ok (.iaload, 1) := by decide +kernel
theorem dX7_invoice_89 : decode cX7_invoice 89 = .ok (.ireturn, 1) := by decide +kernel
theorem dX7_invoice_90 : decode cX7_invoice 90 = .ok (.aload_n 3, 1) := by decide +kernel
theorem dX7_invoice_91 : decode cX7_invoice 91 = .ok (.getfield 218, 3) := by decide +kernel
theorem dX7_invoice_94 : decode cX7_invoice 94 = .ok (.iload_n 1, 1) := by decide +kernel
theorem dX7_invoice_95 : decode cX7_invoice 95 = .ok (.iaload, 1) := by decide +kernel
theorem dX7_invoice_96 : decode cX7_invoice 96 = .ok (.ireturn, 1) := by decide +kernel
theorem dX7_invoice_97 : decode cX7_invoice 97 = .ok (.aload_n 3, 1) := by decide +kernel
theorem dX7_invoice_98 : decode cX7_invoice 98 = .ok (.getfield 221, 3) := by decide +kernel
theorem dX7_invoice_101 : decode cX7_invoice 101 = .ok (.iload_n 1, 1) := by decide +kernel
theorem dX7_invoice_102 : decode cX7_invoice 102 = .ok (.iaload, 1) := by decide +kernel
theorem dX7_invoice_103 : decode cX7_invoice 103 = .ok (.ireturn, 1) := by decide +kernel
theorem dX7_invoice_104 : decode cX7_invoice 104 = .ok (.aload_n 3, 1) := by decide +kernel
theorem dX7_invoice_105 : decode cX7_invoice 105 = .ok (.getfield 224, 3) := by decide +kernel
theorem dX7_invoice_108 : decode cX7_invoice 108 = .ok (.iload_n 1, 1) := by decide +kernel
theorem dX7_invoice_109 : decode cX7_invoice 109 = .ok (.iaload, 1) := by decide +kernel
theorem dX7_invoice_110 : decode cX7_invoice 110 = .ok (.ireturn, 1) := by decide +kernel
theorem dX7_invoice_111 : decode cX7_invoice 111 = .ok (.aload_n 3, 1) := by decide +kernel
theorem dX7_invoice_112 : decode cX7_invoice 112 = .ok (.getfield 227, 3) := by decide +kernel
theorem dX7_invoice_115 : decode cX7_invoice 115 = .ok (.iload_n 1, 1) := by decide +kernel
theorem dX7_invoice_116 : decode cX7_invoice 116 = .ok (.iaload, 1) := by decide +kernel
theorem dX7_invoice_117 : decode cX7_invoice 117 = .ok (.ireturn, 1) := by decide +kernel
theorem dX7_invoice_118 : decode cX7_invoice 118 = .ok (.aload_n 3, 1) := by decide +kernel
theorem dX7_invoice_119 : decode cX7_invoice 119 = .ok (.getfield 230, 3) := by decide +kernel
theorem dX7_invoice_122 : decode cX7_invoice 122 = .ok (.iload_n 1, 1) := by decide +kernel
theorem dX7_invoice_123 : decode cX7_invoice 123 = .ok (.iaload, 1) := by decide +kernel
theorem dX7_invoice_124 : decode cX7_invoice 124 = .ok (.ireturn, 1) := by decide +kernel
theorem dX7_invoice_125 : decode cX7_invoice 125 = .ok (.aload_n 0, 1) := by decide +kernel
theorem dX7_invoice_126 : decode cX7_invoice 126 = .ok (.getfield 10, 3) := by decide +kernel
theorem dX7_invoice_129 : decode cX7_invoice 129 = .ok (.iload_n 1, 1) := by decide +kernel
theorem dX7_invoice_130 : decode cX7_invoice 130 = .ok (.invokevirtual 232, 3) := by decide +kernel
theorem dX7_invoice_133 : decode cX7_invoice 133 = .ok (.ldc 235, 2) := by decide +kernel
theorem dX7_invoice_135 : decode cX7_invoice 135 = .ok (.iadd, 1) := by decide +kernel
theorem dX7_invoice_136 : decode cX7_invoice 136 = .ok (.ireturn, 1) := by decide +kernel
theorem dX7_invoice_137 : decode cX7_invoice 137 = .ok (.aload_n 0, 1) := by decide +kernel
theorem dX7_invoice_138 : decode cX7_invoice 138 = .ok (.getfield 10, 3) := by decide +kernel
theorem dX7_invoice_141 : decode cX7_invoice 141 = .ok (.iload_n 1, 1) := by decide +kernel
theorem dX7_invoice_142 : decode cX7_invoice 142 = .ok (.iconst 0, 1) := by decide +kernel
theorem dX7_invoice_143 : decode cX7_invoice 143 = .ok (.invokevirtual 236, 3) := by decide +kernel
theorem dX7_invoice_146 : decode cX7_invoice 146 = .ok (.ireturn, 1) := by decide +kernel
theorem dX7_invoice_147 : decode cX7_invoice 147 = .ok (.aload_n 0, 1) := by decide +kernel
theorem dX7_invoice_148 : decode cX7_invoice 148 = .ok (.getfield 10, 3) := by decide +kernel
theorem dX7_invoice_151 : decode cX7_invoice 151 = .ok (.iload_n 1, 1) := by decide +kernel
theorem dX7_invoice_152 : decode cX7_invoice 152 = .ok (.invokevirtual 118, 3) := by decide +kernel
theorem dX7_invoice_155 : decode cX7_invoice 155 = .ok (.ifCond .eq 7, 3) := by decide +kernel
theorem dX7_invoice_158 : decode cX7_invoice 158 = .ok (.iconst 1, 1) := by decide +kernel
theorem dX7_invoice_159 : decode cX7_invoice 159 = .ok (.goto 4, 3) := by decide +kernel
theorem dX7_invoice_162 : decode cX7_invoice 162 = .ok (.iconst 0, 1) := by decide +kernel
theorem dX7_invoice_163 : decode cX7_invoice 163 = .ok (.ireturn, 1) := by decide +kernel
theorem dX7_invoice_164 : decode cX7_invoice 164 = .ok (.aload_n 0, 1) := by decide +kernel
theorem dX7_invoice_165 : decode cX7_invoice 165 = .ok (.getfield 10, 3) := by decide +kernel
theorem dX7_invoice_168 : decode cX7_invoice 168 = .ok (.iload_n 1, 1) := by decide +kernel
theorem dX7_invoice_169 : decode cX7_invoice 169 = .ok (.invokevirtual 131, 3) := by decide +kernel
theorem dX7_invoice_172 : decode cX7_invoice 172 = .ok (.ifCond .eq 7, 3) := by decide +kernel
theorem dX7_invoice_175 : decode cX7_invoice 175 = .ok (.iconst 1, 1) := by decide +kernel
theorem dX7_invoice_176 : decode cX7_invoice 176 = .ok (.goto 4, 3) := by decide +kernel
theorem dX7_invoice_179 : decode cX7_invoice 179 = .ok (.iconst 0, 1) := by decide +kernel
theorem dX7_invoice_180 : decode cX7_invoice 180 = .ok (.ireturn, 1) := by decide +kernel
theorem dX7_invoice_181 : decode cX7_invoice 181 = .ok (.bipush (-2), 2) := by decide +kernel
theorem dX7_invoice_183 : decode cX7_invoice 183 = .ok (.ireturn, 1) := by decide +kernel
theorem dX7_best_0 : decode cX7_best 0 = .ok (.iload_n 1, 1) := by decide +kernel
theorem dX7_best_1 : decode cX7_best 1 = .ok (.ifCond .ge 6, 3) := by decide +kernel
theorem dX7_best_4 : decode cX7_best 4 = .ok (.bipush (-2), 2) := by decide +kernel
theorem dX7_best_6 : decode cX7_best 6 = .ok (.ireturn, 1) := by decide +kernel
theorem dX7_best_7 : decode cX7_best 7 = .ok (.aload_n 0, 1) := by decide +kernel
theorem dX7_best_8 : decode cX7_best 8 = .ok (.getfield 39, 3) := by decide +kernel
theorem dX7_best_11 : decode cX7_best 11 = .ok (.iconst 0, 1) := by decide +kernel
theorem dX7_best_12 : decode cX7_best 12 = .ok (.putfield 246, 3) := by decide +kernel
theorem dX7_best_15 : decode cX7_best 15 = .ok (.iconst 0, 1) := by decide +kernel
theorem dX7_best_16 : decode cX7_best 16 = .ok (.istore_n 2, 1) := by decide +kernel
theorem dX7_best_17 : decode cX7_best 17 = .ok (.iload_n 2, 1) := by decide +kernel
theorem dX7_best_18 : decode cX7_best 18 = .ok (.aload_n 0, 1) := by decide +kernel
theorem dX7_best_19 : decode cX7_best 19 = .ok (.getfield 10, 3) := by decide +kernel
theorem dX7_best_22 : decode cX7_best 22 = .ok (.getfield 107, 3) := by decide +kernel
theorem dX7_best_25 : decode cX7_best 25 = .ok (.getfield 111, 3) := by decide +kernel
theorem dX7_best_28 : decode cX7_best 28 = .ok (.if_icmp .ge 36, 3) := by decide +kernel
theorem dX7_best_31 : decode cX7_best 31 = .ok (.aload_n 0, 1) := by decide +kernel
theorem dX7_best_32 : decode cX7_best 32 = .ok (.getfield 10, 3) := by decide +kernel
theorem dX7_best_35 : decode cX7_best 35 = .ok (.iload_n 2, 1) := by decide +kernel
theorem dX7_best_36 : decode cX7_best 36 = .ok (.invokevirtual 118, 3) := by decide +kernel
theorem dX7_best_39 : decode cX7_best 39 = .ok (.ifCond .eq 19, 3) := by decide +kernel
theorem dX7_best_42 : decode cX7_best 42 = .ok (.aload_n 0, 1) := by decide +kernel
theorem dX7_best_43 : decode cX7_best 43 = .ok (.getfield 39, 3) := by decide +kernel
theorem dX7_best_46 : decode cX7_best 46 = .ok (.iload_n 2, 1) := by decide +kernel
theorem dX7_best_47 : decode cX7_best 47 = .ok (.aload_n 0, 1) := by decide +kernel
theorem dX7_best_48 : decode cX7_best 48 = .ok (.getfield 10, 3) := by decide +kernel
theorem dX7_best_51 : decode cX7_best 51 = .ok (.iload_n 2, 1) := by decide +kernel
theorem dX7_best_52 : decode cX7_best 52 = .ok (.invokevirtual 243, 3) := by decide +kernel
theorem dX7_best_55 : decode cX7_best 55 = .ok (.invokevirtual 247, 3) := by decide +kernel
theorem dX7_best_58 : decode cX7_best 58 = .ok (.iinc 2 1, 3) := by decide +kernel
theorem dX7_best_61 : decode cX7_best 61 = .ok (.goto (-44), 3) := by decide +kernel
theorem dX7_best_64 : decode cX7_best 64 = .ok (.iload_n 1, 1) := by decide +kernel
theorem dX7_best_65 : decode cX7_best 65 = .ok (.aload_n 0, 1) := by decide +kernel
theorem dX7_best_66 : decode cX7_best 66 = .ok (.getfield 39, 3) := by decide +kernel
theorem dX7_best_69 : decode cX7_best 69 = .ok (.getfield 246, 3) := by decide +kernel
theorem dX7_best_72 : decode cX7_best 72 = .ok (.if_icmp .ge 14, 3) := by decide +kernel
theorem dX7_best_75 : decode cX7_best 75 = .ok (.aload_n 0, 1) := by decide +kernel
theorem dX7_best_76 : decode cX7_best 76 = .ok (.getfield 39, 3) := by decide +kernel
theorem dX7_best_79 : decode cX7_best 79 = .ok (.iload_n 1, 1) := by decide +kernel
theorem dX7_best_80 : decode cX7_best 80 = .ok (.invokevirtual 251, 3) := by decide +kernel
theorem dX7_best_83 : decode cX7_best 83 = .ok (.goto 5, 3) := by decide +kernel
theorem dX7_best_86 : decode cX7_best 86 = .ok (.bipush (-5), 2) := by decide +kernel
theorem dX7_best_88 : decode cX7_best 88 = .ok (.ireturn, 1) := by decide +kernel
theorem dX7_worthlessIn_0 : decode cX7_worthlessIn 0 = .ok (.aload_n 0, 1) := by decide +kernel
theorem dX7_worthlessIn_1 : decode cX7_worthlessIn 1 = .ok (.getfield 10, 3) := by decide +kernel
theorem dX7_worthlessIn_4 : decode cX7_worthlessIn 4 = .ok (.getfield 107, 3) := by decide +kernel
theorem dX7_worthlessIn_7 : decode cX7_worthlessIn 7 = .ok (.iload_n 1, 1) := by decide +kernel
theorem dX7_worthlessIn_8 : decode cX7_worthlessIn 8 = .ok (.invokevirtual 117, 3) := by decide +kernel
theorem dX7_worthlessIn_11 : decode cX7_worthlessIn 11 = .ok (.ifCond .ne 5, 3) := by decide +kernel
theorem dX7_worthlessIn_14 : decode cX7_worthlessIn 14 = .ok (.iconst (-1), 1) := by decide +kernel
theorem dX7_worthlessIn_15 : decode cX7_worthlessIn 15 = .ok (.ireturn, 1) := by decide +kernel
theorem dX7_worthlessIn_16 : decode cX7_worthlessIn 16 = .ok (.iconst 0, 1) := by decide +kernel
theorem dX7_worthlessIn_17 : decode cX7_worthlessIn 17 = .ok (.istore_n 2, 1) := by decide +kernel
theorem dX7_worthlessIn_18 : decode cX7_worthlessIn 18 = .ok (.iload_n 2, 1) := by decide +kernel
theorem dX7_worthlessIn_19 : decode cX7_worthlessIn 19 = .ok (.sipush 1000, 3) := by decide +kernel
theorem dX7_worthlessIn_22 : decode cX7_worthlessIn 22 = .ok (.if_icmp .gt 23, 3) := by decide +kernel
theorem dX7_worthlessIn_25 : decode cX7_worthlessIn 25 = .ok (.aload_n 0, 1) := by decide +kernel
theorem dX7_worthlessIn_26 : decode cX7_worthlessIn 26 = .ok (.getfield 10, 3) := by decide +kernel
theorem dX7_worthlessIn_29 : decode cX7_worthlessIn 29 = .ok (.iload_n 1, 1) := by decide +kernel
theorem dX7_worthlessIn_30 : decode cX7_worthlessIn 30 = .ok (.iload_n 2, 1) := by decide +kernel
theorem dX7_worthlessIn_31 : decode cX7_worthlessIn 31 = .ok (.invokevirtual 236, 3) := by decide +kernel
theorem dX7_worthlessIn_34 : decode cX7_worthlessIn 34 = .ok (.ifCond .ne 5, 3) := by decide +kernel
theorem dX7_worthlessIn_37 : decode cX7_worthlessIn 37 = .ok (.iload_n 2, 1) := by decide +kernel
theorem dX7_worthlessIn_38 : decode cX7_worthlessIn 38 = .ok (.ireturn, 1) := by decide +kernel
theorem dX7_worthlessIn_39 : decode cX7_worthlessIn 39 = .ok (.iinc 2 1, 3) := by decide +kernel
theorem dX7_worthlessIn_42 : decode cX7_worthlessIn 42 = .ok (.goto (-24), 3) := by decide +kernel
theorem dX7_worthlessIn_45 : decode cX7_worthlessIn 45 = .ok (.bipush (-5), 2) := by decide +kernel
theorem dX7_worthlessIn_47 : decode cX7_worthlessIn 47 = .ok (.ireturn, 1) := by decide +kernel
theorem dX7_count_0 : decode cX7_count 0 = .ok (.iload_n 1, 1) := by decide +kernel
theorem dX7_count_1 : decode cX7_count 1 = .ok (.tableswitch 235 0 15 #[79, 87, 98, 109, 117, 128, 139, 151, 163, 175, 187, 195, 203, 211, 219, 227], 79) := by decide +kernel
theorem dX7_count_80 : decode cX7_count 80 = .ok (.aload_n 0, 1) := by decide +kernel
theorem dX7_count_81 : decode cX7_count 81 = .ok (.getfield 10, 3) := by decide +kernel
theorem dX7_count_84 : decode cX7_count 84 = .ok (.getfield 156, 3) := by decide +kernel
theorem dX7_count_87 : decode cX7_count 87 = .ok (.ireturn, 1) := by decide +kernel
theorem dX7_count_88 : decode cX7_count 88 = .ok (.aload_n 0, 1) := by decide +kernel
theorem dX7_count_89 : decode cX7_count 89 = .ok (.getfield 10, 3) := by decide +kernel
theorem dX7_count_92 : decode cX7_count 92 = .ok (.getfield 97, 3) := by decide +kernel
theorem dX7_count_95 : decode cX7_count 95 = .ok (.ldc 184, 2) := by decide +kernel
theorem dX7_count_97 : decode cX7_count 97 = .ok (.iadd, 1) := by decide +kernel
theorem dX7_count_98 : decode cX7_count 98 = .ok (.ireturn, 1) := by decide +kernel
theorem dX7_count_99 : decode cX7_count 99 = .ok (.aload_n 0, 1) := by decide +kernel
theorem dX7_count_100 : decode cX7_count 100 = .ok (.getfield 10, 3) := by decide +kernel
theorem dX7_count_103 : decode cX7_count 103 = .ok (.getfield 75, 3) := by decide +kernel
theorem dX7_count_106 : decode cX7_count 106 = .ok (.invokevirtual 254, 3) := by decide +kernel
theorem dX7_count_109 : decode cX7_count 109 = .ok (.ireturn, 1) := by decide +kernel
theorem dX7_count_110 : decode cX7_count 110 = .ok (.aload_n 0, 1) := by decide +kernel
theorem dX7_count_111 : decode cX7_count 111 = .ok (.getfield 10, 3) := by decide +kernel
theorem dX7_count_114 : decode cX7_count 114 = .ok (.invokevirtual 260, 3) := by decide +kernel
theorem dX7_count_117 : decode cX7_count 117 = .ok (.ireturn, 1) := by decide +kernel
theorem dX7_count_118 : decode cX7_count 118 = .ok (.aload_n 0, 1) := by decide +kernel
theorem dX7_count_119 : decode cX7_count 119 = .ok (.getfield 10, 3) := by decide +kernel
theorem dX7_count_122 : decode cX7_count 122 = .ok (.getfield 75, 3) := by decide +kernel
theorem dX7_count_125 : decode cX7_count 125 = .ok (.getfield 79, 3) := by decide +kernel
theorem dX7_count_128 : decode cX7_count 128 = .ok (.ireturn, 1) := by decide +kernel
theorem dX7_count_129 : decode cX7_count 129 = .ok (.aload_n 0, 1) := by decide +kernel
theorem dX7_count_130 : decode cX7_count 130 = .ok (.getfield 10, 3) := by decide +kernel
theorem dX7_count_133 : decode cX7_count 133 = .ok (.getfield 107, 3) := by decide +kernel
theorem dX7_count_136 : decode cX7_count 136 = .ok (.getfield 111, 3) := by decide +kernel
theorem dX7_count_139 : decode cX7_count 139 = .ok (.ireturn, 1) := by decide +kernel
theorem dX7_count_140 : decode cX7_count 140 = .ok (.aload_n 0, 1) := by decide +kernel
theorem dX7_count_141 : decode cX7_count 141 = .ok (.getfield 10, 3) := by decide +kernel
theorem dX7_count_144 : decode cX7_count 144 = .ok (.getfield 107, 3) := by decide +kernel
theorem dX7_count_147 : decode cX7_count 147 = .ok (.iconst 0, 1) := by decide +kernel
theorem dX7_count_148 : decode cX7_count 148 = .ok (.invokevirtual 263, 3) := by decide +kernel
theorem dX7_count_151 : decode cX7_count 151 = .ok (.ireturn, 1) := by decide +kernel
theorem dX7_count_152 : decode cX7_count 152 = .ok (.aload_n 0, 1) := by decide +kernel
theorem dX7_count_153 : decode cX7_count 153 = .ok (.getfield 10, 3) := by decide +kernel
theorem dX7_count_156 : decode cX7_count 156 = .ok (.getfield 107, 3) := by decide +kernel
theorem dX7_count_159 : decode cX7_count 159 = .ok (.iconst 1, 1) := by decide +kernel
theorem dX7_count_160 : decode cX7_count 160 = .ok (.invokevirtual 263, 3) := by decide +kernel
theorem dX7_count_163 : decode cX7_count 163 = .ok (.ireturn, 1) := by decide +kernel
theorem dX7_count_164 : decode cX7_count 164 = .ok (.aload_n 0, 1) := by decide +kernel
theorem dX7_count_165 : decode cX7_count 165 = .ok (.getfield 10, 3) := by decide +kernel
theorem dX7_count_168 : decode cX7_count 168 = .ok (.getfield 107, 3) := by decide +kernel
theorem dX7_count_171 : decode cX7_count 171 = .ok (.iconst 2, 1) := by decide +kernel
theorem dX7_count_172 : decode cX7_count 172 = .ok (.invokevirtual 263, 3) := by decide +kernel
theorem dX7_count_175 : decode cX7_count 175 = .ok (.ireturn, 1) := by decide +kernel
theorem dX7_count_176 : decode cX7_count 176 = .ok (.aload_n 0, 1) := by decide +kernel
theorem dX7_count_177 : decode cX7_count 177 = .ok (.getfield 10, 3) := by decide +kernel
theorem dX7_count_180 : decode cX7_count 180 = .ok (.getfield 107, 3) := by decide +kernel
theorem dX7_count_183 : decode cX7_count 183 = .ok (.iconst 3, 1) := by decide +kernel
theorem dX7_count_184 : decode cX7_count 184 = .ok (.invokevirtual 263, 3) := by decide +kernel
theorem dX7_count_187 : decode cX7_count 187 = .ok (.ireturn, 1) := by decide +kernel
theorem dX7_count_188 : decode cX7_count 188 = .ok (.aload_n 0, 1) := by decide +kernel
theorem dX7_count_189 : decode cX7_count 189 = .ok (.getfield 10, 3) := by decide +kernel
theorem dX7_count_192 : decode cX7_count 192 = .ok (.getfield 266, 3) := by decide +kernel
theorem dX7_count_195 : decode cX7_count 195 = .ok (.ireturn, 1) := by decide +kernel
theorem dX7_count_196 : decode cX7_count 196 = .ok (.aload_n 0, 1) := by decide +kernel
theorem dX7_count_197 : decode cX7_count 197 = .ok (.getfield 10, 3) := by decide +kernel
theorem dX7_count_200 : decode cX7_count 200 = .ok (.getfield 269, 3) := by decide +kernel
theorem dX7_count_203 : decode cX7_count 203 = .ok (.ireturn, 1) := by decide +kernel
theorem dX7_count_204 : decode cX7_count 204 = .ok (.aload_n 0, 1) := by decide +kernel
theorem dX7_count_205 : decode cX7_count 205 = .ok (.getfield 10, 3) := by decide +kernel
theorem dX7_count_208 : decode cX7_count 208 = .ok (.getfield 272, 3) := by decide +kernel
theorem dX7_count_211 : decode cX7_count 211 = .ok (.ireturn, 1) := by decide +kernel
theorem dX7_count_212 : decode cX7_count 212 = .ok (.aload_n 0, 1) := by decide +kernel
theorem dX7_count_213 : decode cX7_count 213 = .ok (.getfield 10, 3) := by decide +kernel
theorem dX7_count_216 : decode cX7_count 216 = .ok (.getfield 275, 3) := by decide +kernel
theorem dX7_count_219 : decode cX7_count 219 = .ok (.ireturn, 1) := by decide +kernel
theorem dX7_count_220 : decode cX7_count 220 = .ok (.aload_n 0, 1) := by decide +kernel
theorem dX7_count_221 : decode cX7_count 221 = .ok (.getfield 25, 3) := by decide +kernel
theorem dX7_count_224 : decode cX7_count 224 = .ok (.getfield 166, 3) := by decide +kernel
theorem dX7_count_227 : decode cX7_count 227 = .ok (.ireturn, 1) := by decide +kernel
theorem dX7_count_228 : decode cX7_count 228 = .ok (.aload_n 0, 1) := by decide +kernel
theorem dX7_count_229 : decode cX7_count 229 = .ok (.getfield 32, 3) := by decide +kernel
theorem dX7_count_232 : decode cX7_count 232 = .ok (.getfield 163, 3) := by decide +kernel
theorem dX7_count_235 : decode cX7_count 235 = .ok (.ireturn, 1) := by decide +kernel
theorem dX7_count_236 : decode cX7_count 236 = .ok (.bipush (-2), 2) := by decide +kernel
theorem dX7_count_238 : decode cX7_count 238 = .ok (.ireturn, 1) := by decide +kernel
theorem dX7_noNumber_0 : decode cX7_noNumber 0 = .ok (.ldc_w 278, 3) := by decide +kernel
theorem dX7_noNumber_3 : decode cX7_noNumber 3 = .ok (.freturn, 1) := by decide +kernel
theorem dX7_floatOf_0 : decode cX7_floatOf 0 = .ok (.iload_n 0, 1) := by decide +kernel
theorem dX7_floatOf_1 : decode cX7_floatOf 1 = .ok (.bipush 23, 2) := by decide +kernel
theorem dX7_floatOf_3 : decode cX7_floatOf 3 = .ok (.iushr, 1) := by decide +kernel
theorem dX7_floatOf_4 : decode cX7_floatOf 4 = .ok (.istore_n 1, 1) := by decide +kernel
theorem dX7_floatOf_5 : decode cX7_floatOf 5 = .ok (.iload_n 0, 1) := by decide +kernel
theorem dX7_floatOf_6 : decode cX7_floatOf 6 = .ok (.ldc_w 279, 3) := by decide +kernel
theorem dX7_floatOf_9 : decode cX7_floatOf 9 = .ok (.iand, 1) := by decide +kernel
theorem dX7_floatOf_10 : decode cX7_floatOf 10 = .ok (.istore_n 2, 1) := by decide +kernel
theorem dX7_floatOf_11 : decode cX7_floatOf 11 = .ok (.iload_n 1, 1) := by decide +kernel
theorem dX7_floatOf_12 : decode cX7_floatOf 12 = .ok (.ifCond .ne 7, 3) := by decide +kernel
theorem dX7_floatOf_15 : decode cX7_floatOf 15 = .ok (.iconst 1, 1) := by decide +kernel
theorem dX7_floatOf_16 : decode cX7_floatOf 16 = .ok (.goto 4, 3) := by decide +kernel
theorem dX7_floatOf_19 : decode cX7_floatOf 19 = .ok (.iload_n 1, 1) := by decide +kernel
theorem dX7_floatOf_20 : decode cX7_floatOf 20 = .ok (.istore_n 3, 1) := by decide +kernel
theorem dX7_floatOf_21 : decode cX7_floatOf 21 = .ok (.iload_n 1, 1) := by decide +kernel
theorem dX7_floatOf_22 : decode cX7_floatOf 22 = .ok (.ifCond .ne 7, 3) := by decide +kernel
theorem dX7_floatOf_25 : decode cX7_floatOf 25 = .ok (.iload_n 2, 1) := by decide +kernel
theorem dX7_floatOf_26 : decode cX7_floatOf 26 = .ok (.goto 8, 3) := by decide +kernel
theorem dX7_floatOf_29 : decode cX7_floatOf 29 = .ok (.iload_n 2, 1) := by decide +kernel
theorem dX7_floatOf_30 : decode cX7_floatOf 30 = .ok (.ldc_w 280, 3) := by decide +kernel
theorem dX7_floatOf_33 : decode cX7_floatOf 33 = .ok (.ior, 1) := by decide +kernel
theorem dX7_floatOf_34 : decode cX7_floatOf 34 = .ok (.i2f, 1) := by decide +kernel
theorem dX7_floatOf_35 : decode cX7_floatOf 35 = .ok (.fstore 4, 2) := by decide +kernel
theorem dX7_floatOf_37 : decode cX7_floatOf 37 = .ok (.iload_n 3, 1) := by decide +kernel
theorem dX7_floatOf_38 : decode cX7_floatOf 38 = .ok (.istore 5, 2) := by decide +kernel
theorem dX7_floatOf_40 : decode cX7_floatOf 40 = .ok (.iload 5, 2) := by decide +kernel
theorem dX7_floatOf_42 : decode cX7_floatOf 42 = .ok (.sipush 150, 3) := by decide +kernel
theorem dX7_floatOf_45 : decode cX7_floatOf 45 = .ok (.if_icmp .ge 17, 3) := by decide +kernel
theorem dX7_floatOf_48 : decode cX7_floatOf 48 = .ok (.fload 4, 2) := by decide +kernel
theorem dX7_floatOf_50 : decode cX7_floatOf 50 = .ok (.ldc_w 281, 3) := by decide +kernel
theorem dX7_floatOf_53 : decode cX7_floatOf 53 = .ok (.fmul, 1) := by decide +kernel
theorem dX7_floatOf_54 : decode cX7_floatOf 54 = .ok (.fstore 4, 2) := by decide +kernel
theorem dX7_floatOf_56 : decode cX7_floatOf 56 = .ok (.iinc 5 1, 3) := by decide +kernel
theorem dX7_floatOf_59 : decode cX7_floatOf 59 = .ok (.goto (-19), 3) := by decide +kernel
theorem dX7_floatOf_62 : decode cX7_floatOf 62 = .ok (.fload 4, 2) := by decide +kernel
theorem dX7_floatOf_64 : decode cX7_floatOf 64 = .ok (.freturn, 1) := by decide +kernel
theorem dX7_copyRow_0 : decode cX7_copyRow 0 = .ok (.iconst 0, 1) := by decide +kernel
theorem dX7_copyRow_1 : decode cX7_copyRow 1 = .ok (.istore_n 2, 1) := by decide +kernel
theorem dX7_copyRow_2 : decode cX7_copyRow 2 = .ok (.iload_n 2, 1) := by decide +kernel
theorem dX7_copyRow_3 : decode cX7_copyRow 3 = .ok (.aload_n 0, 1) := by decide +kernel
theorem dX7_copyRow_4 : decode cX7_copyRow 4 = .ok (.arraylength, 1) := by decide +kernel
theorem dX7_copyRow_5 : decode cX7_copyRow 5 = .ok (.if_icmp .ge 21, 3) := by decide +kernel
theorem dX7_copyRow_8 : decode cX7_copyRow 8 = .ok (.iload_n 2, 1) := by decide +kernel
theorem dX7_copyRow_9 : decode cX7_copyRow 9 = .ok (.aload_n 1, 1) := by decide +kernel
theorem dX7_copyRow_10 : decode cX7_copyRow 10 = .ok (.arraylength, 1) := by decide +kernel
theorem dX7_copyRow_11 : decode cX7_copyRow 11 = .ok (.if_icmp .ge 15, 3) := by decide +kernel
theorem dX7_copyRow_14 : decode cX7_copyRow 14 = .ok (.aload_n 1, 1) := by decide +kernel
theorem dX7_copyRow_15 : decode cX7_copyRow 15 = .ok (.iload_n 2, 1) := by decide +kernel
theorem dX7_copyRow_16 : decode cX7_copyRow 16 = .ok (.aload_n 0, 1) := by decide +kernel
theorem dX7_copyRow_17 : decode cX7_copyRow 17 = .ok (.iload_n 2, 1) := by decide +kernel
theorem dX7_copyRow_18 : decode cX7_copyRow 18 = .ok (.iaload, 1) := by decide +kernel
theorem dX7_copyRow_19 : decode cX7_copyRow 19 = .ok (.iastore, 1) := by decide +kernel
theorem dX7_copyRow_20 : decode cX7_copyRow 20 = .ok (.iinc 2 1, 3) := by decide +kernel
theorem dX7_copyRow_23 : decode cX7_copyRow 23 = .ok (.goto (-21), 3) := by decide +kernel
theorem dX7_copyRow_26 : decode cX7_copyRow 26 = .ok (.return_, 1) := by decide +kernel
theorem dL_cell_0 : decode cL_cell 0 = .ok (.iload_n 1, 1) := by decide +kernel
theorem dL_cell_1 : decode cL_cell 1 = .ok (.aload_n 0, 1) := by decide +kernel
theorem dL_cell_2 : decode cL_cell 2 = .ok (.arraylength, 1) := by decide +kernel
theorem dL_cell_3 : decode cL_cell 3 = .ok (.if_icmp .ge 9, 3) := by decide +kernel
theorem dL_cell_6 : decode cL_cell 6 = .ok (.aload_n 0, 1) := by decide +kernel
theorem dL_cell_7 : decode cL_cell 7 = .ok (.iload_n 1, 1) := by decide +kernel
theorem dL_cell_8 : decode cL_cell 8 = .ok (.iaload, 1) := by decide +kernel
theorem dL_cell_9 : decode cL_cell 9 = .ok (.goto 15, 3) := by decide +kernel
theorem dL_cell_12 : decode cL_cell 12 = .ok (.sipush 7919, 3) := by decide +kernel
theorem dL_cell_15 : decode cL_cell 15 = .ok (.iload_n 1, 1) := by decide +kernel
theorem dL_cell_16 : decode cL_cell 16 = .ok (.iconst 3, 1) := by decide +kernel
theorem dL_cell_17 : decode cL_cell 17 = .ok (.iadd, 1) := by decide +kernel
theorem dL_cell_18 : decode cL_cell 18 = .ok (.imul, 1) := by decide +kernel
theorem dL_cell_19 : decode cL_cell 19 = .ok (.iload_n 1, 1) := by decide +kernel
theorem dL_cell_20 : decode cL_cell 20 = .ok (.bipush 11, 2) := by decide +kernel
theorem dL_cell_22 : decode cL_cell 22 = .ok (.iadd, 1) := by decide +kernel
theorem dL_cell_23 : decode cL_cell 23 = .ok (.imul, 1) := by decide +kernel
theorem dL_cell_24 : decode cL_cell 24 = .ok (.ireturn, 1) := by decide +kernel
theorem dL_low_0 : decode cL_low 0 = .ok (.iload_n 0, 1) := by decide +kernel
theorem dL_low_1 : decode cL_low 1 = .ok (.ldc 7, 2) := by decide +kernel
theorem dL_low_3 : decode cL_low 3 = .ok (.iand, 1) := by decide +kernel
theorem dL_low_4 : decode cL_low 4 = .ok (.iload_n 1, 1) := by decide +kernel
theorem dL_low_5 : decode cL_low 5 = .ok (.irem, 1) := by decide +kernel
theorem dL_low_6 : decode cL_low 6 = .ok (.ireturn, 1) := by decide +kernel
theorem dL_does_0 : decode cL_does 0 = .ok (.aload_n 0, 1) := by decide +kernel
theorem dL_does_1 : decode cL_does 1 = .ok (.iconst 4, 1) := by decide +kernel
theorem dL_does_2 : decode cL_does 2 = .ok (.invokevirtual 8, 3) := by decide +kernel
theorem dL_does_5 : decode cL_does 5 = .ok (.istore_n 2, 1) := by decide +kernel
theorem dL_does_6 : decode cL_does 6 = .ok (.aload_n 0, 1) := by decide +kernel
theorem dL_does_7 : decode cL_does 7 = .ok (.iconst 5, 1) := by decide +kernel
theorem dL_does_8 : decode cL_does 8 = .ok (.invokevirtual 8, 3) := by decide +kernel
theorem dL_does_11 : decode cL_does 11 = .ok (.istore_n 3, 1) := by decide +kernel
theorem dL_does_12 : decode cL_does 12 = .ok (.iload_n 2, 1) := by decide +kernel
theorem dL_does_13 : decode cL_does 13 = .ok (.ifCond .ne 7, 3) := by decide +kernel
theorem dL_does_16 : decode cL_does 16 = .ok (.iconst 0, 1) := by decide +kernel
theorem dL_does_17 : decode cL_does 17 = .ok (.goto 10, 3) := by decide +kernel
theorem dL_does_20 : decode cL_does 20 = .ok (.iload_n 1, 1) := by decide +kernel
theorem dL_does_21 : decode cL_does 21 = .ok (.iconst 4, 1) := by decide +kernel
theorem dL_does_22 : decode cL_does 22 = .ok (.ishr, 1) := by decide +kernel
theorem dL_does_23 : decode cL_does 23 = .ok (.iload_n 2, 1) := by decide +kernel
theorem dL_does_24 : decode cL_does 24 = .ok (.invokestatic 14, 3) := by decide +kernel
theorem dL_does_27 : decode cL_does 27 = .ok (.istore 4, 2) := by decide +kernel
theorem dL_does_29 : decode cL_does 29 = .ok (.iload_n 3, 1) := by decide +kernel
theorem dL_does_30 : decode cL_does 30 = .ok (.ifCond .ne 7, 3) := by decide +kernel
theorem dL_does_33 : decode cL_does 33 = .ok (.iconst 0, 1) := by decide +kernel
theorem dL_does_34 : decode cL_does 34 = .ok (.goto 10, 3) := by decide +kernel
theorem dL_does_37 : decode cL_does 37 = .ok (.iload_n 1, 1) := by decide +kernel
theorem dL_does_38 : decode cL_does 38 = .ok (.iconst 4, 1) := by decide +kernel
theorem dL_does_39 : decode cL_does 39 = .ok (.ishr, 1) := by decide +kernel
theorem dL_does_40 : decode cL_does 40 = .ok (.iload_n 3, 1) := by decide +kernel
theorem dL_does_41 : decode cL_does 41 = .ok (.invokestatic 14, 3) := by decide +kernel
theorem dL_does_44 : decode cL_does 44 = .ok (.istore 5, 2) := by decide +kernel
theorem dL_does_46 : decode cL_does 46 = .ok (.iload_n 1, 1) := by decide +kernel
theorem dL_does_47 : decode cL_does 47 = .ok (.bipush 15, 2) := by decide +kernel
theorem dL_does_49 : decode cL_does 49 = .ok (.iand, 1) := by decide +kernel
theorem dL_does_50 : decode cL_does 50 = .ok (.tableswitch 288 0 12 #[66, 81, 81, 99, 99, 99, 142, 142, 149, 149, 215, 222, 243], 66) := by decide +kernel
theorem dL_does_116 : decode cL_does 116 = .ok (.aload_n 0, 1) := by decide +kernel
theorem dL_does_117 : decode cL_does 117 = .ok (.iconst 1, 1) := by decide +kernel
theorem dL_does_118 : decode cL_does 118 = .ok (.iload_n 1, 1) := by decide +kernel
theorem dL_does_119 : decode cL_does 119 = .ok (.iconst 4, 1) := by decide +kernel
theorem dL_does_120 : decode cL_does 120 = .ok (.ishr, 1) := by decide +kernel
theorem dL_does_121 : decode cL_does 121 = .ok (.bipush 9, 2) := by decide +kernel
theorem dL_does_123 : decode cL_does 123 = .ok (.invokestatic 14, 3) := by decide +kernel
theorem dL_does_126 : decode cL_does 126 = .ok (.iadd, 1) := by decide +kernel
theorem dL_does_127 : decode cL_does 127 = .ok (.invokevirtual 20, 3) := by decide +kernel
theorem dL_does_130 : decode cL_does 130 = .ok (.ireturn, 1) := by decide +kernel
theorem dL_does_131 : decode cL_does 131 = .ok (.aload_n 0, 1) := by decide +kernel
theorem dL_does_132 : decode cL_does 132 = .ok (.iload 4, 2) := by decide +kernel
theorem dL_does_134 : decode cL_does 134 = .ok (.iconst 1, 1) := by decide +kernel
theorem dL_does_135 : decode cL_does 135 = .ok (.iload_n 1, 1) := by decide +kernel
theorem dL_does_136 : decode cL_does 136 = .ok (.bipush 6, 2) := by decide +kernel
theorem dL_does_138 : decode cL_does 138 = .ok (.ishr, 1) := by decide +kernel
theorem dL_does_139 : decode cL_does 139 = .ok (.ldc 23, 2) := by decide +kernel
theorem dL_does_141 : decode cL_does 141 = .ok (.invokestatic 14, 3) := by decide +kernel
theorem dL_does_144 : decode cL_does 144 = .ok (.iadd, 1) := by decide +kernel
theorem dL_does_145 : decode cL_does 145 = .ok (.invokevirtual 24, 3) := by decide +kernel
theorem dL_does_148 : decode cL_does 148 = .ok (.ireturn, 1) := by decide +kernel
theorem dL_does_149 : decode cL_does 149 = .ok (.aload_n 0, 1) := by decide +kernel
theorem dL_does_150 : decode cL_does 150 = .ok (.iload 4, 2) := by decide +kernel
theorem dL_does_152 : decode cL_does 152 = .ok (.iload_n 1, 1) := by decide +kernel
theorem dL_does_153 : decode cL_does 153 = .ok (.bipush 6, 2) := by decide +kernel
theorem dL_does_155 : decode cL_does 155 = .ok (.ishr, 1) := by decide +kernel
theorem dL_does_156 : decode cL_does 156 = .ok (.bipush 6, 2) := by decide +kernel
theorem dL_does_158 : decode cL_does 158 = .ok (.invokestatic 14, 3) := by decide +kernel
theorem dL_does_161 : decode cL_does 161 = .ok (.bipush 100, 2) := by decide +kernel
theorem dL_does_163 : decode cL_does 163 = .ok (.iload_n 1, 1) := by decide +kernel
theorem dL_does_164 : decode cL_does 164 = .ok (.bipush 7, 2) := by decide +kernel
theorem dL_does_166 : decode cL_does 166 = .ok (.ishr, 1) := by decide +kernel
theorem dL_does_167 : decode cL_does 167 = .ok (.ldc 27, 2) := by decide +kernel
theorem dL_does_169 : decode cL_does 169 = .ok (.invokestatic 14, 3) := by decide +kernel
theorem dL_does_172 : decode cL_does 172 = .ok (.iadd, 1) := by decide +kernel
theorem dL_does_173 : decode cL_does 173 = .ok (.aload_n 0, 1) := by decide +kernel
theorem dL_does_174 : decode cL_does 174 = .ok (.iconst 0, 1) := by decide +kernel
theorem dL_does_175 : decode cL_does 175 = .ok (.invokevirtual 8, 3) := by decide +kernel
theorem dL_does_178 : decode cL_does 178 = .ok (.iload_n 1, 1) := by decide +kernel
theorem dL_does_179 : decode cL_does 179 = .ok (.bipush 9, 2) := by decide +kernel
theorem dL_does_181 : decode cL_does 181 = .ok (.ishr, 1) := by decide +kernel
theorem dL_does_182 : decode cL_does 182 = .ok (.bipush 30, 2) := by decide +kernel
theorem dL_does_184 : decode cL_does 184 = .ok (.invokestatic 14, 3) := by decide +kernel
theorem dL_does_187 : decode cL_does 187 = .ok (.iadd, 1) := by decide +kernel
theorem dL_does_188 : decode cL_does 188 = .ok (.invokevirtual 28, 3) := by decide +kernel
theorem dL_does_191 : decode cL_does 191 = .ok (.ireturn, 1) := by decide +kernel
theorem dL_does_192 : decode cL_does 192 = .ok (.aload_n 0, 1) := by decide +kernel
theorem dL_does_193 : decode cL_does 193 = .ok (.iload 5, 2) := by decide +kernel
theorem dL_does_195 : decode cL_does 195 = .ok (.invokevirtual 32, 3) := by decide +kernel
theorem dL_does_198 : decode cL_does 198 = .ok (.ireturn, 1) := by decide +kernel
theorem dL_does_199 : decode cL_does 199 = .ok (.iload_n 3, 1) := by decide +kernel
theorem dL_does_200 : decode cL_does 200 = .ok (.ifCond .ne 7, 3) := by decide +kernel
theorem dL_does_203 : decode cL_does 203 = .ok (.iconst 1, 1) := by decide +kernel
theorem dL_does_204 : decode cL_does 204 = .ok (.goto 18, 3) := by decide +kernel
theorem dL_does_207 : decode cL_does 207 = .ok (.aload_n 0, 1) := by decide +kernel
theorem dL_does_208 : decode cL_does 208 = .ok (.iload 5, 2) := by decide +kernel
theorem dL_does_210 : decode cL_does 210 = .ok (.iconst 2, 1) := by decide +kernel
theorem dL_does_211 : decode cL_does 211 = .ok (.invokevirtual 35, 3) := by decide +kernel
theorem dL_does_214 : decode cL_does 214 = .ok (.aload_n 0, 1) := by decide +kernel
theorem dL_does_215 : decode cL_does 215 = .ok (.iload 5, 2) := by decide +kernel
theorem dL_does_217 : decode cL_does 217 = .ok (.iconst 5, 1) := by decide +kernel
theorem dL_does_218 : decode cL_does 218 = .ok (.invokevirtual 35, 3) := by decide +kernel
theorem dL_does_221 : decode cL_does 221 = .ok (.isub, 1) := by decide +kernel
theorem dL_does_222 : decode cL_does 222 = .ok (.istore 6, 2) := by decide +kernel
theorem dL_does_224 : decode cL_does 224 = .ok (.aload_n 0, 1) := by decide +kernel
theorem dL_does_225 : decode cL_does 225 = .ok (.iload 5, 2) := by decide +kernel
theorem dL_does_227 : decode cL_does 227 = .ok (.iload_n 1, 1) := by decide +kernel
theorem dL_does_228 : decode cL_does 228 = .ok (.bipush 9, 2) := by decide +kernel
theorem dL_does_230 : decode cL_does 230 = .ok (.ishr, 1) := by decide +kernel
theorem dL_does_231 : decode cL_does 231 = .ok (.iconst 1, 1) := by decide +kernel
theorem dL_does_232 : decode cL_does 232 = .ok (.iand, 1) := by decide +kernel
theorem dL_does_233 : decode cL_does 233 = .ok (.ifCond .ne 8, 3) := by decide +kernel
theorem dL_does_236 : decode cL_does 236 = .ok (.iload 6, 2) := by decide +kernel
theorem dL_does_238 : decode cL_does 238 = .ok (.goto 23, 3) := by decide +kernel
theorem dL_does_241 : decode cL_does 241 = .ok (.iconst 1, 1) := by decide +kernel
theorem dL_does_242 : decode cL_does 242 = .ok (.iload_n 1, 1) := by decide +kernel
theorem dL_does_243 : decode cL_does 243 = .ok (.bipush 10, 2) := by decide +kernel
theorem dL_does_245 : decode cL_does 245 = .ok (.ishr, 1) := by decide +kernel
theorem dL_does_246 : decode cL_does 246 = .ok (.iload 6, 2) := by decide +kernel
theorem dL_does_248 : decode cL_does 248 = .ok (.ifCond .ne 7, 3) := by decide +kernel
theorem dL_does_251 : decode cL_does 251 = .ok (.iconst 1, 1) := by decide +kernel
theorem dL_does_252 : decode cL_does 252 = .ok (.goto 5, 3) := by decide +kernel
theorem dL_does_255 : decode cL_does 255 = .ok (.iload 6, 2) := by decide +kernel
theorem dL_does_257 : decode cL_does 257 = .ok (.invokestatic 14, 3) := by decide +kernel
theorem dL_does_260 : decode cL_does 260 = .ok (.iadd, 1) := by decide +kernel
theorem dL_does_261 : decode cL_does 261 = .ok (.invokevirtual 38, 3) := by decide +kernel
theorem dL_does_264 : decode cL_does 264 = .ok (.ireturn, 1) := by decide +kernel
theorem dL_does_265 : decode cL_does 265 = .ok (.aload_n 0, 1) := by decide +kernel
theorem dL_does_266 : decode cL_does 266 = .ok (.iload 5, 2) := by decide +kernel
theorem dL_does_268 : decode cL_does 268 = .ok (.invokevirtual 41, 3) := by decide +kernel
theorem dL_does_271 : decode cL_does 271 = .ok (.ireturn, 1) := by decide +kernel
theorem dL_does_272 : decode cL_does 272 = .ok (.aload_n 0, 1) := by decide +kernel
theorem dL_does_273 : decode cL_does 273 = .ok (.iload_n 1, 1) := by decide +kernel
theorem dL_does_274 : decode cL_does 274 = .ok (.iconst 4, 1) := by decide +kernel
theorem dL_does_275 : decode cL_does 275 = .ok (.ishr, 1) := by decide +kernel
theorem dL_does_276 : decode cL_does 276 = .ok (.iconst 3, 1) := by decide +kernel
theorem dL_does_277 : decode cL_does 277 = .ok (.invokestatic 14, 3) := by decide +kernel
theorem dL_does_280 : decode cL_does 280 = .ok (.iload_n 1, 1) := by decide +kernel
theorem dL_does_281 : decode cL_does 281 = .ok (.bipush 6, 2) := by decide +kernel
theorem dL_does_283 : decode cL_does 283 = .ok (.ishr, 1) := by decide +kernel
theorem dL_does_284 : decode cL_does 284 = .ok (.bipush 120, 2) := by decide +kernel
theorem dL_does_286 : decode cL_does 286 = .ok (.invokestatic 14, 3) := by decide +kernel
theorem dL_does_289 : decode cL_does 289 = .ok (.invokevirtual 44, 3) := by decide +kernel
theorem dL_does_292 : decode cL_does 292 = .ok (.ireturn, 1) := by decide +kernel
theorem dL_does_293 : decode cL_does 293 = .ok (.aload_n 0, 1) := by decide +kernel
theorem dL_does_294 : decode cL_does 294 = .ok (.iload_n 1, 1) := by decide +kernel
theorem dL_does_295 : decode cL_does 295 = .ok (.iconst 4, 1) := by decide +kernel
theorem dL_does_296 : decode cL_does 296 = .ok (.ishr, 1) := by decide +kernel
theorem dL_does_297 : decode cL_does 297 = .ok (.iconst 3, 1) := by decide +kernel
theorem dL_does_298 : decode cL_does 298 = .ok (.invokestatic 14, 3) := by decide +kernel
theorem dL_does_301 : decode cL_does 301 = .ok (.iload_n 1, 1) := by decide +kernel
theorem dL_does_302 : decode cL_does 302 = .ok (.bipush 6, 2) := by decide +kernel
theorem dL_does_304 : decode cL_does 304 = .ok (.ishr, 1) := by decide +kernel
theorem dL_does_305 : decode cL_does 305 = .ok (.iconst 1, 1) := by decide +kernel
theorem dL_does_306 : decode cL_does 306 = .ok (.iand, 1) := by decide +kernel
theorem dL_does_307 : decode cL_does 307 = .ok (.ifCond .ne 18, 3) := by decide +kernel
theorem dL_does_310 : decode cL_does 310 = .ok (.ldc 47, 2) := by decide +kernel
theorem dL_does_312 : decode cL_does 312 = .ok (.iload_n 1, 1) := by decide +kernel
theorem dL_does_313 : decode cL_does 313 = .ok (.bipush 7, 2) := by decide +kernel
theorem dL_does_315 : decode cL_does 315 = .ok (.ishr, 1) := by decide +kernel
theorem dL_does_316 : decode cL_does 316 = .ok (.ldc 48, 2) := by decide +kernel
theorem dL_does_318 : decode cL_does 318 = .ok (.invokestatic 14, 3) := by decide +kernel
theorem dL_does_321 : decode cL_does 321 = .ok (.iadd, 1) := by decide +kernel
theorem dL_does_322 : decode cL_does 322 = .ok (.goto 12, 3) := by decide +kernel
theorem dL_does_325 : decode cL_does 325 = .ok (.iload_n 1, 1) := by decide +kernel
theorem dL_does_326 : decode cL_does 326 = .ok (.bipush 7, 2) := by decide +kernel
theorem dL_does_328 : decode cL_does 328 = .ok (.ishr, 1) := by decide +kernel
theorem dL_does_329 : decode cL_does 329 = .ok (.ldc 49, 2) := by decide +kernel
theorem dL_does_331 : decode cL_does 331 = .ok (.invokestatic 14, 3) := by decide +kernel
theorem dL_does_334 : decode cL_does 334 = .ok (.invokevirtual 50, 3) := by decide +kernel
theorem dL_does_337 : decode cL_does 337 = .ok (.ireturn, 1) := by decide +kernel
theorem dL_does_338 : decode cL_does 338 = .ok (.aload_n 0, 1) := by decide +kernel
theorem dL_does_339 : decode cL_does 339 = .ok (.iconst 1, 1) := by decide +kernel
theorem dL_does_340 : decode cL_does 340 = .ok (.iload_n 1, 1) := by decide +kernel
theorem dL_does_341 : decode cL_does 341 = .ok (.iconst 4, 1) := by decide +kernel
theorem dL_does_342 : decode cL_does 342 = .ok (.ishr, 1) := by decide +kernel
theorem dL_does_343 : decode cL_does 343 = .ok (.bipush 60, 2) := by decide +kernel
theorem dL_does_345 : decode cL_does 345 = .ok (.invokestatic 14, 3) := by decide +kernel
theorem dL_does_348 : decode cL_does 348 = .ok (.iadd, 1) := by decide +kernel
theorem dL_does_349 : decode cL_does 349 = .ok (.invokevirtual 53, 3) := by decide +kernel
theorem dL_does_352 : decode cL_does 352 = .ok (.ireturn, 1) := by decide +kernel
theorem dL_areSumsSo_0 : decode cL_areSumsSo 0 = .ok (.ldc 56, 2) := by decide +kernel
theorem dL_areSumsSo_2 : decode cL_areSumsSo 2 = .ok (.istore_n 2, 1) := by decide +kernel
theorem dL_areSumsSo_3 : decode cL_areSumsSo 3 = .ok (.iconst 0, 1) := by decide +kernel
theorem dL_areSumsSo_4 : decode cL_areSumsSo 4 = .ok (.istore_n 3, 1) := by decide +kernel
theorem dL_areSumsSo_5 : decode cL_areSumsSo 5 = .ok (.iconst 0, 1) := by decide +kernel
theorem dL_areSumsSo_6 : decode cL_areSumsSo 6 = .ok (.istore 4, 2) := by decide +kernel
theorem dL_areSumsSo_8 : decode cL_areSumsSo 8 = .ok (.iconst 0, 1) := by decide +kernel
theorem dL_areSumsSo_9 : decode cL_areSumsSo 9 = .ok (.istore 5, 2) := by decide +kernel
theorem dL_areSumsSo_11 : decode cL_areSumsSo 11 = .ok (.iconst 0, 1) := by decide +kernel
theorem dL_areSumsSo_12 : decode cL_areSumsSo 12 = .ok (.istore 6, 2) := by decide +kernel
theorem dL_areSumsSo_14 : decode cL_areSumsSo 14 = .ok (.iconst 0, 1) := by decide +kernel
theorem dL_areSumsSo_15 : decode cL_areSumsSo 15 = .ok (.istore 7, 2) := by decide +kernel
theorem dL_areSumsSo_17 : decode cL_areSumsSo 17 = .ok (.iload 7, 2) := by decide +kernel
theorem dL_areSumsSo_19 : decode cL_areSumsSo 19 = .ok (.aload_n 0, 1) := by decide +kernel
theorem dL_areSumsSo_20 : decode cL_areSumsSo 20 = .ok (.iconst 4, 1) := by decide +kernel
theorem dL_areSumsSo_21 : decode cL_areSumsSo 21 = .ok (.invokevirtual 8, 3) := by decide +kernel
theorem dL_areSumsSo_24 : decode cL_areSumsSo 24 = .ok (.if_icmp .ge 59, 3) := by decide +kernel
theorem dL_areSumsSo_27 : decode cL_areSumsSo 27 = .ok (.iload_n 3, 1) := by decide +kernel
theorem dL_areSumsSo_28 : decode cL_areSumsSo 28 = .ok (.aload_n 0, 1) := by decide +kernel
theorem dL_areSumsSo_29 : decode cL_areSumsSo 29 = .ok (.iload 7, 2) := by decide +kernel
theorem dL_areSumsSo_31 : decode cL_areSumsSo 31 = .ok (.iconst 2, 1) := by decide +kernel
theorem dL_areSumsSo_32 : decode cL_areSumsSo 32 = .ok (.invokevirtual 57, 3) := by decide +kernel
theorem dL_areSumsSo_35 : decode cL_areSumsSo 35 = .ok (.iload_n 2, 1) := by decide +kernel
theorem dL_areSumsSo_36 : decode cL_areSumsSo 36 = .ok (.isub, 1) := by decide +kernel
theorem dL_areSumsSo_37 : decode cL_areSumsSo 37 = .ok (.iadd, 1) := by decide +kernel
theorem dL_areSumsSo_38 : decode cL_areSumsSo 38 = .ok (.istore_n 3, 1) := by decide +kernel
theorem dL_areSumsSo_39 : decode cL_areSumsSo 39 = .ok (.iload 4, 2) := by decide +kernel
theorem dL_areSumsSo_41 : decode cL_areSumsSo 41 = .ok (.aload_n 0, 1) := by decide +kernel
theorem dL_areSumsSo_42 : decode cL_areSumsSo 42 = .ok (.iload 7, 2) := by decide +kernel
theorem dL_areSumsSo_44 : decode cL_areSumsSo 44 = .ok (.iconst 5, 1) := by decide +kernel
theorem dL_areSumsSo_45 : decode cL_areSumsSo 45 = .ok (.invokevirtual 57, 3) := by decide +kernel
theorem dL_areSumsSo_48 : decode cL_areSumsSo 48 = .ok (.iload_n 2, 1) := by decide +kernel
theorem dL_areSumsSo_49 : decode cL_areSumsSo 49 = .ok (.isub, 1) := by decide +kernel
theorem dL_areSumsSo_50 : decode cL_areSumsSo 50 = .ok (.iadd, 1) := by decide +kernel
theorem dL_areSumsSo_51 : decode cL_areSumsSo 51 = .ok (.istore 4, 2) := by decide +kernel
theorem dL_areSumsSo_53 : decode cL_areSumsSo 53 = .ok (.iload 5, 2) := by decide +kernel
theorem dL_areSumsSo_55 : decode cL_areSumsSo 55 = .ok (.aload_n 0, 1) := by decide +kernel
theorem dL_areSumsSo_56 : decode cL_areSumsSo 56 = .ok (.iload 7, 2) := by decide +kernel
theorem dL_areSumsSo_58 : decode cL_areSumsSo 58 = .ok (.iconst 1, 1) := by decide +kernel
theorem dL_areSumsSo_59 : decode cL_areSumsSo 59 = .ok (.invokevirtual 57, 3) := by decide +kernel
theorem dL_areSumsSo_62 : decode cL_areSumsSo 62 = .ok (.iadd, 1) := by decide +kernel
theorem dL_areSumsSo_63 : decode cL_areSumsSo 63 = .ok (.istore 5, 2) := by decide +kernel
theorem dL_areSumsSo_65 : decode cL_areSumsSo 65 = .ok (.iload 6, 2) := by decide +kernel
theorem dL_areSumsSo_67 : decode cL_areSumsSo 67 = .ok (.aload_n 0, 1) := by decide +kernel
theorem dL_areSumsSo_68 : decode cL_areSumsSo 68 = .ok (.iload 7, 2) := by decide +kernel
theorem dL_areSumsSo_70 : decode cL_areSumsSo 70 = .ok (.iconst 4, 1) := by decide +kernel
theorem dL_areSumsSo_71 : decode cL_areSumsSo 71 = .ok (.invokevirtual 57, 3) := by decide +kernel
theorem dL_areSumsSo_74 : decode cL_areSumsSo 74 = .ok (.iadd, 1) := by decide +kernel
theorem dL_areSumsSo_75 : decode cL_areSumsSo 75 = .ok (.istore 6, 2) := by decide +kernel
theorem dL_areSumsSo_77 : decode cL_areSumsSo 77 = .ok (.iinc 7 1, 3) := by decide +kernel
theorem dL_areSumsSo_80 : decode cL_areSumsSo 80 = .ok (.goto (-63), 3) := by decide +kernel
theorem dL_areSumsSo_83 : decode cL_areSumsSo 83 = .ok (.aload_n 0, 1) := by decide +kernel
theorem dL_areSumsSo_84 : decode cL_areSumsSo 84 = .ok (.iconst 1, 1) := by decide +kernel
theorem dL_areSumsSo_85 : decode cL_areSumsSo 85 = .ok (.invokevirtual 8, 3) := by decide +kernel
theorem dL_areSumsSo_88 : decode cL_areSumsSo 88 = .ok (.iload_n 2, 1) := by decide +kernel
theorem dL_areSumsSo_89 : decode cL_areSumsSo 89 = .ok (.isub, 1) := by decide +kernel
theorem dL_areSumsSo_90 : decode cL_areSumsSo 90 = .ok (.istore 7, 2) := by decide +kernel
theorem dL_areSumsSo_92 : decode cL_areSumsSo 92 = .ok (.iload 7, 2) := by decide +kernel
theorem dL_areSumsSo_94 : decode cL_areSumsSo 94 = .ok (.aload_n 0, 1) := by decide +kernel
theorem dL_areSumsSo_95 : decode cL_areSumsSo 95 = .ok (.iconst 2, 1) := by decide +kernel
theorem dL_areSumsSo_96 : decode cL_areSumsSo 96 = .ok (.invokevirtual 8, 3) := by decide +kernel
theorem dL_areSumsSo_99 : decode cL_areSumsSo 99 = .ok (.iload_n 1, 1) := by decide +kernel
theorem dL_areSumsSo_100 : decode cL_areSumsSo 100 = .ok (.iadd, 1) := by decide +kernel
theorem dL_areSumsSo_101 : decode cL_areSumsSo 101 = .ok (.aload_n 0, 1) := by decide +kernel
theorem dL_areSumsSo_102 : decode cL_areSumsSo 102 = .ok (.bipush 13, 2) := by decide +kernel
theorem dL_areSumsSo_104 : decode cL_areSumsSo 104 = .ok (.invokevirtual 8, 3) := by decide +kernel
theorem dL_areSumsSo_107 : decode cL_areSumsSo 107 = .ok (.iadd, 1) := by decide +kernel
theorem dL_areSumsSo_108 : decode cL_areSumsSo 108 = .ok (.aload_n 0, 1) := by decide +kernel
theorem dL_areSumsSo_109 : decode cL_areSumsSo 109 = .ok (.bipush 10, 2) := by decide +kernel
theorem dL_areSumsSo_111 : decode cL_areSumsSo 111 = .ok (.invokevirtual 8, 3) := by decide +kernel
theorem dL_areSumsSo_114 : decode cL_areSumsSo 114 = .ok (.isub, 1) := by decide +kernel
theorem dL_areSumsSo_115 : decode cL_areSumsSo 115 = .ok (.aload_n 0, 1) := by decide +kernel
theorem dL_areSumsSo_116 : decode cL_areSumsSo 116 = .ok (.bipush 12, 2) := by decide +kernel
theorem dL_areSumsSo_118 : decode cL_areSumsSo 118 = .ok (.invokevirtual 8, 3) := by decide +kernel
theorem dL_areSumsSo_121 : decode cL_areSumsSo 121 = .ok (.isub, 1) := by decide +kernel
theorem dL_areSumsSo_122 : decode cL_areSumsSo 122 = .ok (.if_icmp .ne 28, 3) := by decide +kernel
theorem dL_areSumsSo_125 : decode cL_areSumsSo 125 = .ok (.iload 4, 2) := by decide +kernel
theorem dL_areSumsSo_127 : decode cL_areSumsSo 127 = .ok (.aload_n 0, 1) := by decide +kernel
theorem dL_areSumsSo_128 : decode cL_areSumsSo 128 = .ok (.bipush 13, 2) := by decide +kernel
theorem dL_areSumsSo_130 : decode cL_areSumsSo 130 = .ok (.invokevirtual 8, 3) := by decide +kernel
theorem dL_areSumsSo_133 : decode cL_areSumsSo 133 = .ok (.if_icmp .ne 17, 3) := by decide +kernel
theorem dL_areSumsSo_136 : decode cL_areSumsSo 136 = .ok (.iload 5, 2) := by decide +kernel
theorem dL_areSumsSo_138 : decode cL_areSumsSo 138 = .ok (.aload_n 0, 1) := by decide +kernel
theorem dL_areSumsSo_139 : decode cL_areSumsSo 139 = .ok (.iconst 2, 1) := by decide +kernel
theorem dL_areSumsSo_140 : decode cL_areSumsSo 140 = .ok (.invokevirtual 8, 3) := by decide +kernel
theorem dL_areSumsSo_143 : decode cL_areSumsSo 143 = .ok (.if_icmp .ne 7, 3) := by decide +kernel
theorem dL_areSumsSo_146 : decode cL_areSumsSo 146 = .ok (.iconst 1, 1) := by decide +kernel
theorem dL_areSumsSo_147 : decode cL_areSumsSo 147 = .ok (.goto 4, 3) := by decide +kernel
theorem dL_areSumsSo_150 : decode cL_areSumsSo 150 = .ok (.iconst 0, 1) := by decide +kernel
theorem dL_areSumsSo_151 : decode cL_areSumsSo 151 = .ok (.istore 8, 2) := by decide +kernel
theorem dL_areSumsSo_153 : decode cL_areSumsSo 153 = .ok (.iload 8, 2) := by decide +kernel
theorem dL_areSumsSo_155 : decode cL_areSumsSo 155 = .ok (.ifCond .eq 51, 3) := by decide +kernel
theorem dL_areSumsSo_158 : decode cL_areSumsSo 158 = .ok (.iload_n 3, 1) := by decide +kernel
theorem dL_areSumsSo_159 : decode cL_areSumsSo 159 = .ok (.aload_n 0, 1) := by decide +kernel
theorem dL_areSumsSo_160 : decode cL_areSumsSo 160 = .ok (.bipush 11, 2) := by decide +kernel
theorem dL_areSumsSo_162 : decode cL_areSumsSo 162 = .ok (.invokevirtual 8, 3) := by decide +kernel
theorem dL_areSumsSo_165 : decode cL_areSumsSo 165 = .ok (.iload_n 1, 1) := by decide +kernel
theorem dL_areSumsSo_166 : decode cL_areSumsSo 166 = .ok (.isub, 1) := by decide +kernel
theorem dL_areSumsSo_167 : decode cL_areSumsSo 167 = .ok (.aload_n 0, 1) := by decide +kernel
theorem dL_areSumsSo_168 : decode cL_areSumsSo 168 = .ok (.bipush 10, 2) := by decide +kernel
theorem dL_areSumsSo_170 : decode cL_areSumsSo 170 = .ok (.invokevirtual 8, 3) := by decide +kernel
theorem dL_areSumsSo_173 : decode cL_areSumsSo 173 = .ok (.iadd, 1) := by decide +kernel
theorem dL_areSumsSo_174 : decode cL_areSumsSo 174 = .ok (.aload_n 0, 1) := by decide +kernel
theorem dL_areSumsSo_175 : decode cL_areSumsSo 175 = .ok (.bipush 12, 2) := by decide +kernel
theorem dL_areSumsSo_177 : decode cL_areSumsSo 177 = .ok (.invokevirtual 8, 3) := by decide +kernel
theorem dL_areSumsSo_180 : decode cL_areSumsSo 180 = .ok (.iadd, 1) := by decide +kernel
theorem dL_areSumsSo_181 : decode cL_areSumsSo 181 = .ok (.aload_n 0, 1) := by decide +kernel
theorem dL_areSumsSo_182 : decode cL_areSumsSo 182 = .ok (.bipush 13, 2) := by decide +kernel
theorem dL_areSumsSo_184 : decode cL_areSumsSo 184 = .ok (.invokevirtual 8, 3) := by decide +kernel
theorem dL_areSumsSo_187 : decode cL_areSumsSo 187 = .ok (.isub, 1) := by decide +kernel
theorem dL_areSumsSo_188 : decode cL_areSumsSo 188 = .ok (.if_icmp .ne 18, 3) := by decide +kernel
theorem dL_areSumsSo_191 : decode cL_areSumsSo 191 = .ok (.iload 6, 2) := by decide +kernel
theorem dL_areSumsSo_193 : decode cL_areSumsSo 193 = .ok (.aload_n 0, 1) := by decide +kernel
theorem dL_areSumsSo_194 : decode cL_areSumsSo 194 = .ok (.bipush 7, 2) := by decide +kernel
theorem dL_areSumsSo_196 : decode cL_areSumsSo 196 = .ok (.invokevirtual 8, 3) := by decide +kernel
theorem dL_areSumsSo_199 : decode cL_areSumsSo 199 = .ok (.if_icmp .ne 7, 3) := by decide +kernel
theorem dL_areSumsSo_202 : decode cL_areSumsSo 202 = .ok (.iconst 1, 1) := by decide +kernel
theorem dL_areSumsSo_203 : decode cL_areSumsSo 203 = .ok (.goto 4, 3) := by decide +kernel
theorem dL_areSumsSo_206 : decode cL_areSumsSo 206 = .ok (.iconst 0, 1) := by decide +kernel
theorem dL_areSumsSo_207 : decode cL_areSumsSo 207 = .ok (.istore 8, 2) := by decide +kernel
theorem dL_areSumsSo_209 : decode cL_areSumsSo 209 = .ok (.iload 8, 2) := by decide +kernel
theorem dL_areSumsSo_211 : decode cL_areSumsSo 211 = .ok (.ifCond .eq 42, 3) := by decide +kernel
theorem dL_areSumsSo_214 : decode cL_areSumsSo 214 = .ok (.aload_n 0, 1) := by decide +kernel
theorem dL_areSumsSo_215 : decode cL_areSumsSo 215 = .ok (.bipush 6, 2) := by decide +kernel
theorem dL_areSumsSo_217 : decode cL_areSumsSo 217 = .ok (.invokevirtual 8, 3) := by decide +kernel
theorem dL_areSumsSo_220 : decode cL_areSumsSo 220 = .ok (.aload_n 0, 1) := by decide +kernel
theorem dL_areSumsSo_221 : decode cL_areSumsSo 221 = .ok (.bipush 7, 2) := by decide +kernel
theorem dL_areSumsSo_223 : decode cL_areSumsSo 223 = .ok (.invokevirtual 8, 3) := by decide +kernel
theorem dL_areSumsSo_226 : decode cL_areSumsSo 226 = .ok (.iadd, 1) := by decide +kernel
theorem dL_areSumsSo_227 : decode cL_areSumsSo 227 = .ok (.aload_n 0, 1) := by decide +kernel
theorem dL_areSumsSo_228 : decode cL_areSumsSo 228 = .ok (.bipush 8, 2) := by decide +kernel
theorem dL_areSumsSo_230 : decode cL_areSumsSo 230 = .ok (.invokevirtual 8, 3) := by decide +kernel
theorem dL_areSumsSo_233 : decode cL_areSumsSo 233 = .ok (.iadd, 1) := by decide +kernel
theorem dL_areSumsSo_234 : decode cL_areSumsSo 234 = .ok (.aload_n 0, 1) := by decide +kernel
theorem dL_areSumsSo_235 : decode cL_areSumsSo 235 = .ok (.bipush 9, 2) := by decide +kernel
theorem dL_areSumsSo_237 : decode cL_areSumsSo 237 = .ok (.invokevirtual 8, 3) := by decide +kernel
theorem dL_areSumsSo_240 : decode cL_areSumsSo 240 = .ok (.iadd, 1) := by decide +kernel
theorem dL_areSumsSo_241 : decode cL_areSumsSo 241 = .ok (.aload_n 0, 1) := by decide +kernel
theorem dL_areSumsSo_242 : decode cL_areSumsSo 242 = .ok (.iconst 5, 1) := by decide +kernel
theorem dL_areSumsSo_243 : decode cL_areSumsSo 243 = .ok (.invokevirtual 8, 3) := by decide +kernel
theorem dL_areSumsSo_246 : decode cL_areSumsSo 246 = .ok (.if_icmp .ne 7, 3) := by decide +kernel
theorem dL_areSumsSo_249 : decode cL_areSumsSo 249 = .ok (.iconst 1, 1) := by decide +kernel
theorem dL_areSumsSo_250 : decode cL_areSumsSo 250 = .ok (.goto 4, 3) := by decide +kernel
theorem dL_areSumsSo_253 : decode cL_areSumsSo 253 = .ok (.iconst 0, 1) := by decide +kernel
theorem dL_areSumsSo_254 : decode cL_areSumsSo 254 = .ok (.ireturn, 1) := by decide +kernel
theorem dL_areInvoicesSo_0 : decode cL_areInvoicesSo 0 = .ok (.iconst 0, 1) := by decide +kernel
theorem dL_areInvoicesSo_1 : decode cL_areInvoicesSo 1 = .ok (.istore_n 1, 1) := by decide +kernel
theorem dL_areInvoicesSo_2 : decode cL_areInvoicesSo 2 = .ok (.iconst 0, 1) := by decide +kernel
theorem dL_areInvoicesSo_3 : decode cL_areInvoicesSo 3 = .ok (.istore_n 2, 1) := by decide +kernel
theorem dL_areInvoicesSo_4 : decode cL_areInvoicesSo 4 = .ok (.iconst 0, 1) := by decide +kernel
theorem dL_areInvoicesSo_5 : decode cL_areInvoicesSo 5 = .ok (.istore_n 3, 1) := by decide +kernel
theorem dL_areInvoicesSo_6 : decode cL_areInvoicesSo 6 = .ok (.iconst 0, 1) := by decide +kernel
theorem dL_areInvoicesSo_7 : decode cL_areInvoicesSo 7 = .ok (.istore 4, 2) := by decide +kernel
theorem dL_areInvoicesSo_9 : decode cL_areInvoicesSo 9 = .ok (.iload 4, 2) := by decide +kernel
theorem dL_areInvoicesSo_11 : decode cL_areInvoicesSo 11 = .ok (.aload_n 0, 1) := by decide +kernel
theorem dL_areInvoicesSo_12 : decode cL_areInvoicesSo 12 = .ok (.iconst 5, 1) := by decide +kernel
theorem dL_areInvoicesSo_13 : decode cL_areInvoicesSo 13 = .ok (.invokevirtual 8, 3) := by decide +kernel
theorem dL_areInvoicesSo_16 : decode cL_areInvoicesSo 16 = .ok (.if_icmp .ge 188, 3) := by decide +kernel
theorem dL_areInvoicesSo_19 : decode cL_areInvoicesSo 19 = .ok (.aload_n 0, 1) := by decide +kernel
theorem dL_areInvoicesSo_20 : decode cL_areInvoicesSo 20 = .ok (.iload 4, 2) := by decide +kernel
theorem dL_areInvoicesSo_22 : decode cL_areInvoicesSo 22 = .ok (.iconst 4, 1) := by decide +kernel
theorem dL_areInvoicesSo_23 : decode cL_areInvoicesSo 23 = .ok (.invokevirtual 35, 3) := by decide +kernel
theorem dL_areInvoicesSo_26 : decode cL_areInvoicesSo 26 = .ok (.istore 5, 2) := by decide +kernel
theorem dL_areInvoicesSo_28 : decode cL_areInvoicesSo 28 = .ok (.iload_n 1, 1) := by decide +kernel
theorem dL_areInvoicesSo_29 : decode cL_areInvoicesSo 29 = .ok (.aload_n 0, 1) := by decide +kernel
theorem dL_areInvoicesSo_30 : decode cL_areInvoicesSo 30 = .ok (.iload 4, 2) := by decide +kernel
theorem dL_areInvoicesSo_32 : decode cL_areInvoicesSo 32 = .ok (.bipush 9, 2) := by decide +kernel
theorem dL_areInvoicesSo_34 : decode cL_areInvoicesSo 34 = .ok (.invokevirtual 35, 3) := by decide +kernel
theorem dL_areInvoicesSo_37 : decode cL_areInvoicesSo 37 = .ok (.iadd, 1) := by decide +kernel
theorem dL_areInvoicesSo_38 : decode cL_areInvoicesSo 38 = .ok (.istore_n 1, 1) := by decide +kernel
theorem dL_areInvoicesSo_39 : decode cL_areInvoicesSo 39 = .ok (.aload_n 0, 1) := by decide +kernel
theorem dL_areInvoicesSo_40 : decode cL_areInvoicesSo 40 = .ok (.iload 4, 2) := by decide +kernel
theorem dL_areInvoicesSo_42 : decode cL_areInvoicesSo 42 = .ok (.iconst 5, 1) := by decide +kernel
theorem dL_areInvoicesSo_43 : decode cL_areInvoicesSo 43 = .ok (.invokevirtual 35, 3) := by decide +kernel
theorem dL_areInvoicesSo_46 : decode cL_areInvoicesSo 46 = .ok (.aload_n 0, 1) := by decide +kernel
theorem dL_areInvoicesSo_47 : decode cL_areInvoicesSo 47 = .ok (.iload 4, 2) := by decide +kernel
theorem dL_areInvoicesSo_49 : decode cL_areInvoicesSo 49 = .ok (.iconst 2, 1) := by decide +kernel
theorem dL_areInvoicesSo_50 : decode cL_areInvoicesSo 50 = .ok (.invokevirtual 35, 3) := by decide +kernel
theorem dL_areInvoicesSo_53 : decode cL_areInvoicesSo 53 = .ok (.if_icmp .ne 7, 3) := by decide +kernel
theorem dL_areInvoicesSo_56 : decode cL_areInvoicesSo 56 = .ok (.iconst 1, 1) := by decide +kernel
theorem dL_areInvoicesSo_57 : decode cL_areInvoicesSo 57 = .ok (.goto 4, 3) := by decide +kernel
theorem dL_areInvoicesSo_60 : decode cL_areInvoicesSo 60 = .ok (.iconst 0, 1) := by decide +kernel
theorem dL_areInvoicesSo_61 : decode cL_areInvoicesSo 61 = .ok (.istore 6, 2) := by decide +kernel
theorem dL_areInvoicesSo_63 : decode cL_areInvoicesSo 63 = .ok (.iload 5, 2) := by decide +kernel
theorem dL_areInvoicesSo_65 : decode cL_areInvoicesSo 65 = .ok (.ifCond .ne 22, 3) := by decide +kernel
theorem dL_areInvoicesSo_68 : decode cL_areInvoicesSo 68 = .ok (.aload_n 0, 1) := by decide +kernel
theorem dL_areInvoicesSo_69 : decode cL_areInvoicesSo 69 = .ok (.iload 4, 2) := by decide +kernel
theorem dL_areInvoicesSo_71 : decode cL_areInvoicesSo 71 = .ok (.bipush 6, 2) := by decide +kernel
theorem dL_areInvoicesSo_73 : decode cL_areInvoicesSo 73 = .ok (.invokevirtual 35, 3) := by decide +kernel
theorem dL_areInvoicesSo_76 : decode cL_areInvoicesSo 76 = .ok (.ifCond .ne 7, 3) := by decide +kernel
theorem dL_areInvoicesSo_79 : decode cL_areInvoicesSo 79 = .ok (.iconst 1, 1) := by decide +kernel
theorem dL_areInvoicesSo_80 : decode cL_areInvoicesSo 80 = .ok (.goto 47, 3) := by decide +kernel
theorem dL_areInvoicesSo_83 : decode cL_areInvoicesSo 83 = .ok (.iconst 0, 1) := by decide +kernel
theorem dL_areInvoicesSo_84 : decode cL_areInvoicesSo 84 = .ok (.goto 43, 3) := by decide +kernel
theorem dL_areInvoicesSo_87 : decode cL_areInvoicesSo 87 = .ok (.aload_n 0, 1) := by decide +kernel
theorem dL_areInvoicesSo_88 : decode cL_areInvoicesSo 88 = .ok (.iload 4, 2) := by decide +kernel
theorem dL_areInvoicesSo_90 : decode cL_areInvoicesSo 90 = .ok (.bipush 6, 2) := by decide +kernel
theorem dL_areInvoicesSo_92 : decode cL_areInvoicesSo 92 = .ok (.invokevirtual 35, 3) := by decide +kernel
theorem dL_areInvoicesSo_95 : decode cL_areInvoicesSo 95 = .ok (.aload_n 0, 1) := by decide +kernel
theorem dL_areInvoicesSo_96 : decode cL_areInvoicesSo 96 = .ok (.iload 4, 2) := by decide +kernel
theorem dL_areInvoicesSo_98 : decode cL_areInvoicesSo 98 = .ok (.iconst 2, 1) := by decide +kernel
theorem dL_areInvoicesSo_99 : decode cL_areInvoicesSo 99 = .ok (.invokevirtual 35, 3) := by decide +kernel
theorem dL_areInvoicesSo_102 : decode cL_areInvoicesSo 102 = .ok (.if_icmp .gt 24, 3) := by decide +kernel
theorem dL_areInvoicesSo_105 : decode cL_areInvoicesSo 105 = .ok (.iload 5, 2) := by decide +kernel
theorem dL_areInvoicesSo_107 : decode cL_areInvoicesSo 107 = .ok (.iconst 1, 1) := by decide +kernel
theorem dL_areInvoicesSo_108 : decode cL_areInvoicesSo 108 = .ok (.if_icmp .ne 14, 3) := by decide +kernel
theorem dL_areInvoicesSo_111 : decode cL_areInvoicesSo 111 = .ok (.aload_n 0, 1) := by decide +kernel
theorem dL_areInvoicesSo_112 : decode cL_areInvoicesSo 112 = .ok (.iload 4, 2) := by decide +kernel
theorem dL_areInvoicesSo_114 : decode cL_areInvoicesSo 114 = .ok (.bipush 6, 2) := by decide +kernel
theorem dL_areInvoicesSo_116 : decode cL_areInvoicesSo 116 = .ok (.invokevirtual 35, 3) := by decide +kernel
theorem dL_areInvoicesSo_119 : decode cL_areInvoicesSo 119 = .ok (.ifCond .le 7, 3) := by decide +kernel
theorem dL_areInvoicesSo_122 : decode cL_areInvoicesSo 122 = .ok (.iconst 1, 1) := by decide +kernel
theorem dL_areInvoicesSo_123 : decode cL_areInvoicesSo 123 = .ok (.goto 4, 3) := by decide +kernel
theorem dL_areInvoicesSo_126 : decode cL_areInvoicesSo 126 = .ok (.iconst 0, 1) := by decide +kernel
theorem dL_areInvoicesSo_127 : decode cL_areInvoicesSo 127 = .ok (.istore 7, 2) := by decide +kernel
theorem dL_areInvoicesSo_129 : decode cL_areInvoicesSo 129 = .ok (.aload_n 0, 1) := by decide +kernel
theorem dL_areInvoicesSo_130 : decode cL_areInvoicesSo 130 = .ok (.iload 4, 2) := by decide +kernel
theorem dL_areInvoicesSo_132 : decode cL_areInvoicesSo 132 = .ok (.iconst 5, 1) := by decide +kernel
theorem dL_areInvoicesSo_133 : decode cL_areInvoicesSo 133 = .ok (.invokevirtual 35, 3) := by decide +kernel
theorem dL_areInvoicesSo_136 : decode cL_areInvoicesSo 136 = .ok (.aload_n 0, 1) := by decide +kernel
theorem dL_areInvoicesSo_137 : decode cL_areInvoicesSo 137 = .ok (.iload 4, 2) := by decide +kernel
theorem dL_areInvoicesSo_139 : decode cL_areInvoicesSo 139 = .ok (.iconst 2, 1) := by decide +kernel
theorem dL_areInvoicesSo_140 : decode cL_areInvoicesSo 140 = .ok (.invokevirtual 35, 3) := by decide +kernel
theorem dL_areInvoicesSo_143 : decode cL_areInvoicesSo 143 = .ok (.if_icmp .gt 53, 3) := by decide +kernel
theorem dL_areInvoicesSo_146 : decode cL_areInvoicesSo 146 = .ok (.iload 6, 2) := by decide +kernel
theorem dL_areInvoicesSo_148 : decode cL_areInvoicesSo 148 = .ok (.iload 5, 2) := by decide +kernel
theorem dL_areInvoicesSo_150 : decode cL_areInvoicesSo 150 = .ok (.iconst 2, 1) := by decide +kernel
theorem dL_areInvoicesSo_151 : decode cL_areInvoicesSo 151 = .ok (.if_icmp .ne 7, 3) := by decide +kernel
theorem dL_areInvoicesSo_154 : decode cL_areInvoicesSo 154 = .ok (.iconst 1, 1) := by decide +kernel
theorem dL_areInvoicesSo_155 : decode cL_areInvoicesSo 155 = .ok (.goto 4, 3) := by decide +kernel
theorem dL_areInvoicesSo_158 : decode cL_areInvoicesSo 158 = .ok (.iconst 0, 1) := by decide +kernel
theorem dL_areInvoicesSo_159 : decode cL_areInvoicesSo 159 = .ok (.if_icmp .ne 37, 3) := by decide +kernel
theorem dL_areInvoicesSo_162 : decode cL_areInvoicesSo 162 = .ok (.iload 7, 2) := by decide +kernel
theorem dL_areInvoicesSo_164 : decode cL_areInvoicesSo 164 = .ok (.ifCond .eq 32, 3) := by decide +kernel
theorem dL_areInvoicesSo_167 : decode cL_areInvoicesSo 167 = .ok (.aload_n 0, 1) := by decide +kernel
theorem dL_areInvoicesSo_168 : decode cL_areInvoicesSo 168 = .ok (.iload 4, 2) := by decide +kernel
theorem dL_areInvoicesSo_170 : decode cL_areInvoicesSo 170 = .ok (.bipush 8, 2) := by decide +kernel
theorem dL_areInvoicesSo_172 : decode cL_areInvoicesSo 172 = .ok (.invokevirtual 35, 3) := by decide +kernel
theorem dL_areInvoicesSo_175 : decode cL_areInvoicesSo 175 = .ok (.ifCond .lt 21, 3) := by decide +kernel
theorem dL_areInvoicesSo_178 : decode cL_areInvoicesSo 178 = .ok (.aload_n 0, 1) := by decide +kernel
theorem dL_areInvoicesSo_179 : decode cL_areInvoicesSo 179 = .ok (.iload 4, 2) := by decide +kernel
theorem dL_areInvoicesSo_181 : decode cL_areInvoicesSo 181 = .ok (.bipush 8, 2) := by decide +kernel
theorem dL_areInvoicesSo_183 : decode cL_areInvoicesSo 183 = .ok (.invokevirtual 35, 3) := by decide +kernel
theorem dL_areInvoicesSo_186 : decode cL_areInvoicesSo 186 = .ok (.aload_n 0, 1) := by decide +kernel
theorem dL_areInvoicesSo_187 : decode cL_areInvoicesSo 187 = .ok (.iload 4, 2) := by decide +kernel
theorem dL_areInvoicesSo_189 : decode cL_areInvoicesSo 189 = .ok (.iconst 2, 1) := by decide +kernel
theorem dL_areInvoicesSo_190 : decode cL_areInvoicesSo 190 = .ok (.invokevirtual 35, 3) := by decide +kernel
theorem dL_areInvoicesSo_193 : decode cL_areInvoicesSo 193 = .ok (.if_icmp .le 5, 3) := by decide +kernel
theorem dL_areInvoicesSo_196 : decode cL_areInvoicesSo 196 = .ok (.iconst 0, 1) := by decide +kernel
theorem dL_areInvoicesSo_197 : decode cL_areInvoicesSo 197 = .ok (.ireturn, 1) := by decide +kernel
theorem dL_areInvoicesSo_198 : decode cL_areInvoicesSo 198 = .ok (.iinc 4 1, 3) := by decide +kernel
theorem dL_areInvoicesSo_201 : decode cL_areInvoicesSo 201 = .ok (.goto (-192), 3) := by decide +kernel
theorem dL_areInvoicesSo_204 : decode cL_areInvoicesSo 204 = .ok (.iconst 0, 1) := by decide +kernel
theorem dL_areInvoicesSo_205 : decode cL_areInvoicesSo 205 = .ok (.istore 4, 2) := by decide +kernel
theorem dL_areInvoicesSo_207 : decode cL_areInvoicesSo 207 = .ok (.iload 4, 2) := by decide +kernel
theorem dL_areInvoicesSo_209 : decode cL_areInvoicesSo 209 = .ok (.bipush 6, 2) := by decide +kernel
theorem dL_areInvoicesSo_211 : decode cL_areInvoicesSo 211 = .ok (.if_icmp .ge 29, 3) := by decide +kernel
theorem dL_areInvoicesSo_214 : decode cL_areInvoicesSo 214 = .ok (.iload_n 2, 1) := by decide +kernel
theorem dL_areInvoicesSo_215 : decode cL_areInvoicesSo 215 = .ok (.aload_n 0, 1) := by decide +kernel
theorem dL_areInvoicesSo_216 : decode cL_areInvoicesSo 216 = .ok (.iload 4, 2) := by decide +kernel
theorem dL_areInvoicesSo_218 : decode cL_areInvoicesSo 218 = .ok (.iconst 0, 1) := by decide +kernel
theorem dL_areInvoicesSo_219 : decode cL_areInvoicesSo 219 = .ok (.invokevirtual 60, 3) := by decide +kernel
theorem dL_areInvoicesSo_222 : decode cL_areInvoicesSo 222 = .ok (.iadd, 1) := by decide +kernel
theorem dL_areInvoicesSo_223 : decode cL_areInvoicesSo 223 = .ok (.istore_n 2, 1) := by decide +kernel
theorem dL_areInvoicesSo_224 : decode cL_areInvoicesSo 224 = .ok (.iload_n 3, 1) := by decide +kernel
theorem dL_areInvoicesSo_225 : decode cL_areInvoicesSo 225 = .ok (.aload_n 0, 1) := by decide +kernel
theorem dL_areInvoicesSo_226 : decode cL_areInvoicesSo 226 = .ok (.iload 4, 2) := by decide +kernel
theorem dL_areInvoicesSo_228 : decode cL_areInvoicesSo 228 = .ok (.iconst 1, 1) := by decide +kernel
theorem dL_areInvoicesSo_229 : decode cL_areInvoicesSo 229 = .ok (.invokevirtual 60, 3) := by decide +kernel
theorem dL_areInvoicesSo_232 : decode cL_areInvoicesSo 232 = .ok (.iadd, 1) := by decide +kernel
theorem dL_areInvoicesSo_233 : decode cL_areInvoicesSo 233 = .ok (.istore_n 3, 1) := by decide +kernel
theorem dL_areInvoicesSo_234 : decode cL_areInvoicesSo 234 = .ok (.iinc 4 1, 3) := by decide +kernel
theorem dL_areInvoicesSo_237 : decode cL_areInvoicesSo 237 = .ok (.goto (-30), 3) := by decide +kernel
theorem dL_areInvoicesSo_240 : decode cL_areInvoicesSo 240 = .ok (.iconst 0, 1) := by decide +kernel
theorem dL_areInvoicesSo_241 : decode cL_areInvoicesSo 241 = .ok (.istore 4, 2) := by decide +kernel
theorem dL_areInvoicesSo_243 : decode cL_areInvoicesSo 243 = .ok (.iload 4, 2) := by decide +kernel
theorem dL_areInvoicesSo_245 : decode cL_areInvoicesSo 245 = .ok (.iload_n 1, 1) := by decide +kernel
theorem dL_areInvoicesSo_246 : decode cL_areInvoicesSo 246 = .ok (.if_icmp .ge 54, 3) := by decide +kernel
theorem dL_areInvoicesSo_249 : decode cL_areInvoicesSo 249 = .ok (.aload_n 0, 1) := by decide +kernel
theorem dL_areInvoicesSo_250 : decode cL_areInvoicesSo 250 = .ok (.iload 4, 2) := by decide +kernel
theorem dL_areInvoicesSo_252 : decode cL_areInvoicesSo 252 = .ok (.invokevirtual 63, 3) := by decide +kernel
theorem dL_areInvoicesSo_255 : decode cL_areInvoicesSo 255 = .ok (.istore 5, 2) := by decide +kernel
theorem dL_areInvoicesSo_257 : decode cL_areInvoicesSo 257 = .ok (.iload 5, 2) := by decide +kernel
theorem dL_areInvoicesSo_259 : decode cL_areInvoicesSo 259 = .ok (.ifCond .lt 33, 3) := by decide +kernel
theorem dL_areInvoicesSo_262 : decode cL_areInvoicesSo 262 = .ok (.aload_n 0, 1) := by decide +kernel
theorem dL_areInvoicesSo_263 : decode cL_areInvoicesSo 263 = .ok (.iload 5, 2) := by decide +kernel
theorem dL_areInvoicesSo_265 : decode cL_areInvoicesSo 265 = .ok (.bipush 9, 2) := by decide +kernel
theorem dL_areInvoicesSo_267 : decode cL_areInvoicesSo 267 = .ok (.invokevirtual 35, 3) := by decide +kernel
theorem dL_areInvoicesSo_270 : decode cL_areInvoicesSo 270 = .ok (.iconst 1, 1) := by decide +kernel
theorem dL_areInvoicesSo_271 : decode cL_areInvoicesSo 271 = .ok (.if_icmp .ne 21, 3) := by decide +kernel
theorem dL_areInvoicesSo_274 : decode cL_areInvoicesSo 274 = .ok (.iload 4, 2) := by decide +kernel
theorem dL_areInvoicesSo_276 : decode cL_areInvoicesSo 276 = .ok (.ifCond .le 18, 3) := by decide +kernel
theorem dL_areInvoicesSo_279 : decode cL_areInvoicesSo 279 = .ok (.aload_n 0, 1) := by decide +kernel
theorem dL_areInvoicesSo_280 : decode cL_areInvoicesSo 280 = .ok (.iload 4, 2) := by decide +kernel
theorem dL_areInvoicesSo_282 : decode cL_areInvoicesSo 282 = .ok (.iconst 1, 1) := by decide +kernel
theorem dL_areInvoicesSo_283 : decode cL_areInvoicesSo 283 = .ok (.isub, 1) := by decide +kernel
theorem dL_areInvoicesSo_284 : decode cL_areInvoicesSo 284 = .ok (.invokevirtual 63, 3) := by decide +kernel
theorem dL_areInvoicesSo_287 : decode cL_areInvoicesSo 287 = .ok (.iload 5, 2) := by decide +kernel
theorem dL_areInvoicesSo_289 : decode cL_areInvoicesSo 289 = .ok (.if_icmp .ne 5, 3) := by decide +kernel
theorem dL_areInvoicesSo_292 : decode cL_areInvoicesSo 292 = .ok (.iconst 0, 1) := by decide +kernel
theorem dL_areInvoicesSo_293 : decode cL_areInvoicesSo 293 = .ok (.ireturn, 1) := by decide +kernel
theorem dL_areInvoicesSo_294 : decode cL_areInvoicesSo 294 = .ok (.iinc 4 1, 3) := by decide +kernel
theorem dL_areInvoicesSo_297 : decode cL_areInvoicesSo 297 = .ok (.goto (-54), 3) := by decide +kernel
theorem dL_areInvoicesSo_300 : decode cL_areInvoicesSo 300 = .ok (.aload_n 0, 1) := by decide +kernel
theorem dL_areInvoicesSo_301 : decode cL_areInvoicesSo 301 = .ok (.iload_n 1, 1) := by decide +kernel
theorem dL_areInvoicesSo_302 : decode cL_areInvoicesSo 302 = .ok (.invokevirtual 63, 3) := by decide +kernel
theorem dL_areInvoicesSo_305 : decode cL_areInvoicesSo 305 = .ok (.bipush (-5), 2) := by decide +kernel
theorem dL_areInvoicesSo_307 : decode cL_areInvoicesSo 307 = .ok (.if_icmp .ne 27, 3) := by decide +kernel
theorem dL_areInvoicesSo_310 : decode cL_areInvoicesSo 310 = .ok (.iload_n 2, 1) := by decide +kernel
theorem dL_areInvoicesSo_311 : decode cL_areInvoicesSo 311 = .ok (.aload_n 0, 1) := by decide +kernel
theorem dL_areInvoicesSo_312 : decode cL_areInvoicesSo 312 = .ok (.bipush 8, 2) := by decide +kernel
theorem dL_areInvoicesSo_314 : decode cL_areInvoicesSo 314 = .ok (.invokevirtual 8, 3) := by decide +kernel
theorem dL_areInvoicesSo_317 : decode cL_areInvoicesSo 317 = .ok (.if_icmp .ne 17, 3) := by decide +kernel
theorem dL_areInvoicesSo_320 : decode cL_areInvoicesSo 320 = .ok (.iload_n 3, 1) := by decide +kernel
theorem dL_areInvoicesSo_321 : decode cL_areInvoicesSo 321 = .ok (.aload_n 0, 1) := by decide +kernel
theorem dL_areInvoicesSo_322 : decode cL_areInvoicesSo 322 = .ok (.bipush 9, 2) := by decide +kernel
theorem dL_areInvoicesSo_324 : decode cL_areInvoicesSo 324 = .ok (.invokevirtual 8, 3) := by decide +kernel
theorem dL_areInvoicesSo_327 : decode cL_areInvoicesSo 327 = .ok (.if_icmp .ne 7, 3) := by decide +kernel
theorem dL_areInvoicesSo_330 : decode cL_areInvoicesSo 330 = .ok (.iconst 1, 1) := by decide +kernel
theorem dL_areInvoicesSo_331 : decode cL_areInvoicesSo 331 = .ok (.goto 4, 3) := by decide +kernel
theorem dL_areInvoicesSo_334 : decode cL_areInvoicesSo 334 = .ok (.iconst 0, 1) := by decide +kernel
theorem dL_areInvoicesSo_335 : decode cL_areInvoicesSo 335 = .ok (.ireturn, 1) := by decide +kernel
theorem dL_isWorthlessSo_0 : decode cL_isWorthlessSo 0 = .ok (.aload_n 0, 1) := by decide +kernel
theorem dL_isWorthlessSo_1 : decode cL_isWorthlessSo 1 = .ok (.iload_n 1, 1) := by decide +kernel
theorem dL_isWorthlessSo_2 : decode cL_isWorthlessSo 2 = .ok (.invokevirtual 66, 3) := by decide +kernel
theorem dL_isWorthlessSo_5 : decode cL_isWorthlessSo 5 = .ok (.istore_n 2, 1) := by decide +kernel
theorem dL_isWorthlessSo_6 : decode cL_isWorthlessSo 6 = .ok (.iload_n 2, 1) := by decide +kernel
theorem dL_isWorthlessSo_7 : decode cL_isWorthlessSo 7 = .ok (.iconst 1, 1) := by decide +kernel
theorem dL_isWorthlessSo_8 : decode cL_isWorthlessSo 8 = .ok (.if_icmp .lt 10, 3) := by decide +kernel
theorem dL_isWorthlessSo_11 : decode cL_isWorthlessSo 11 = .ok (.iload_n 2, 1) := by decide +kernel
theorem dL_isWorthlessSo_12 : decode cL_isWorthlessSo 12 = .ok (.sipush 365, 3) := by decide +kernel
theorem dL_isWorthlessSo_15 : decode cL_isWorthlessSo 15 = .ok (.if_icmp .le 49, 3) := by decide +kernel
theorem dL_isWorthlessSo_18 : decode cL_isWorthlessSo 18 = .ok (.iload_n 2, 1) := by decide +kernel
theorem dL_isWorthlessSo_19 : decode cL_isWorthlessSo 19 = .ok (.sipush 365, 3) := by decide +kernel
theorem dL_isWorthlessSo_22 : decode cL_isWorthlessSo 22 = .ok (.if_icmp .gt 36, 3) := by decide +kernel
theorem dL_isWorthlessSo_25 : decode cL_isWorthlessSo 25 = .ok (.iload_n 2, 1) := by decide +kernel
theorem dL_isWorthlessSo_26 : decode cL_isWorthlessSo 26 = .ok (.ifCond .ne 7, 3) := by decide +kernel
theorem dL_isWorthlessSo_29 : decode cL_isWorthlessSo 29 = .ok (.iconst 1, 1) := by decide +kernel
theorem dL_isWorthlessSo_30 : decode cL_isWorthlessSo 30 = .ok (.goto 4, 3) := by decide +kernel
theorem dL_isWorthlessSo_33 : decode cL_isWorthlessSo 33 = .ok (.iconst 0, 1) := by decide +kernel
theorem dL_isWorthlessSo_34 : decode cL_isWorthlessSo 34 = .ok (.aload_n 0, 1) := by decide +kernel
theorem dL_isWorthlessSo_35 : decode cL_isWorthlessSo 35 = .ok (.iload_n 1, 1) := by decide +kernel
theorem dL_isWorthlessSo_36 : decode cL_isWorthlessSo 36 = .ok (.bipush 8, 2) := by decide +kernel
theorem dL_isWorthlessSo_38 : decode cL_isWorthlessSo 38 = .ok (.invokevirtual 35, 3) := by decide +kernel
theorem dL_isWorthlessSo_41 : decode cL_isWorthlessSo 41 = .ok (.ifCond .ne 7, 3) := by decide +kernel
theorem dL_isWorthlessSo_44 : decode cL_isWorthlessSo 44 = .ok (.iconst 1, 1) := by decide +kernel
theorem dL_isWorthlessSo_45 : decode cL_isWorthlessSo 45 = .ok (.goto 4, 3) := by decide +kernel
theorem dL_isWorthlessSo_48 : decode cL_isWorthlessSo 48 = .ok (.iconst 0, 1) := by decide +kernel
theorem dL_isWorthlessSo_49 : decode cL_isWorthlessSo 49 = .ok (.if_icmp .ne 13, 3) := by decide +kernel
theorem dL_isWorthlessSo_52 : decode cL_isWorthlessSo 52 = .ok (.iload_n 2, 1) := by decide +kernel
theorem dL_isWorthlessSo_53 : decode cL_isWorthlessSo 53 = .ok (.bipush (-5), 2) := by decide +kernel
theorem dL_isWorthlessSo_55 : decode cL_isWorthlessSo 55 = .ok (.if_icmp .lt 7, 3) := by decide +kernel
theorem dL_isWorthlessSo_58 : decode cL_isWorthlessSo 58 = .ok (.iconst 1, 1) := by decide +kernel
theorem dL_isWorthlessSo_59 : decode cL_isWorthlessSo 59 = .ok (.goto 4, 3) := by decide +kernel
theorem dL_isWorthlessSo_62 : decode cL_isWorthlessSo 62 = .ok (.iconst 0, 1) := by decide +kernel
theorem dL_isWorthlessSo_63 : decode cL_isWorthlessSo 63 = .ok (.ireturn, 1) := by decide +kernel
theorem dL_isWorthlessSo_64 : decode cL_isWorthlessSo 64 = .ok (.aload_n 0, 1) := by decide +kernel
theorem dL_isWorthlessSo_65 : decode cL_isWorthlessSo 65 = .ok (.iload_n 1, 1) := by decide +kernel
theorem dL_isWorthlessSo_66 : decode cL_isWorthlessSo 66 = .ok (.bipush 8, 2) := by decide +kernel
theorem dL_isWorthlessSo_68 : decode cL_isWorthlessSo 68 = .ok (.invokevirtual 35, 3) := by decide +kernel
theorem dL_isWorthlessSo_71 : decode cL_isWorthlessSo 71 = .ok (.ifCond .le 25, 3) := by decide +kernel
theorem dL_isWorthlessSo_74 : decode cL_isWorthlessSo 74 = .ok (.aload_n 0, 1) := by decide +kernel
theorem dL_isWorthlessSo_75 : decode cL_isWorthlessSo 75 = .ok (.iload_n 2, 1) := by decide +kernel
theorem dL_isWorthlessSo_76 : decode cL_isWorthlessSo 76 = .ok (.invokevirtual 53, 3) := by decide +kernel
theorem dL_isWorthlessSo_79 : decode cL_isWorthlessSo 79 = .ok (.ifCond .le 17, 3) := by decide +kernel
theorem dL_isWorthlessSo_82 : decode cL_isWorthlessSo 82 = .ok (.aload_n 0, 1) := by decide +kernel
theorem dL_isWorthlessSo_83 : decode cL_isWorthlessSo 83 = .ok (.iload_n 1, 1) := by decide +kernel
theorem dL_isWorthlessSo_84 : decode cL_isWorthlessSo 84 = .ok (.bipush 8, 2) := by decide +kernel
theorem dL_isWorthlessSo_86 : decode cL_isWorthlessSo 86 = .ok (.invokevirtual 35, 3) := by decide +kernel
theorem dL_isWorthlessSo_89 : decode cL_isWorthlessSo 89 = .ok (.ifCond .ne 7, 3) := by decide +kernel
theorem dL_isWorthlessSo_92 : decode cL_isWorthlessSo 92 = .ok (.iconst 1, 1) := by decide +kernel
theorem dL_isWorthlessSo_93 : decode cL_isWorthlessSo 93 = .ok (.goto 4, 3) := by decide +kernel
theorem dL_isWorthlessSo_96 : decode cL_isWorthlessSo 96 = .ok (.iconst 0, 1) := by decide +kernel
theorem dL_isWorthlessSo_97 : decode cL_isWorthlessSo 97 = .ok (.istore_n 3, 1) := by decide +kernel
theorem dL_isWorthlessSo_98 : decode cL_isWorthlessSo 98 = .ok (.aload_n 0, 1) := by decide +kernel
theorem dL_isWorthlessSo_99 : decode cL_isWorthlessSo 99 = .ok (.invokevirtual 69, 3) := by decide +kernel
theorem dL_isWorthlessSo_102 : decode cL_isWorthlessSo 102 = .ok (.pop, 1) := by decide +kernel
theorem dL_isWorthlessSo_103 : decode cL_isWorthlessSo 103 = .ok (.iload_n 2, 1) := by decide +kernel
theorem dL_isWorthlessSo_104 : decode cL_isWorthlessSo 104 = .ok (.iconst 1, 1) := by decide +kernel
theorem dL_isWorthlessSo_105 : decode cL_isWorthlessSo 105 = .ok (.if_icmp .le 38, 3) := by decide +kernel
theorem dL_isWorthlessSo_108 : decode cL_isWorthlessSo 108 = .ok (.iload_n 3, 1) := by decide +kernel
theorem dL_isWorthlessSo_109 : decode cL_isWorthlessSo 109 = .ok (.ifCond .eq 27, 3) := by decide +kernel
theorem dL_isWorthlessSo_112 : decode cL_isWorthlessSo 112 = .ok (.aload_n 0, 1) := by decide +kernel
theorem dL_isWorthlessSo_113 : decode cL_isWorthlessSo 113 = .ok (.iload_n 2, 1) := by decide +kernel
theorem dL_isWorthlessSo_114 : decode cL_isWorthlessSo 114 = .ok (.iconst 1, 1) := by decide +kernel
theorem dL_isWorthlessSo_115 : decode cL_isWorthlessSo 115 = .ok (.isub, 1) := by decide +kernel
theorem dL_isWorthlessSo_116 : decode cL_isWorthlessSo 116 = .ok (.invokevirtual 53, 3) := by decide +kernel
theorem dL_isWorthlessSo_119 : decode cL_isWorthlessSo 119 = .ok (.ifCond .le 17, 3) := by decide +kernel
theorem dL_isWorthlessSo_122 : decode cL_isWorthlessSo 122 = .ok (.aload_n 0, 1) := by decide +kernel
theorem dL_isWorthlessSo_123 : decode cL_isWorthlessSo 123 = .ok (.iload_n 1, 1) := by decide +kernel
theorem dL_isWorthlessSo_124 : decode cL_isWorthlessSo 124 = .ok (.bipush 8, 2) := by decide +kernel
theorem dL_isWorthlessSo_126 : decode cL_isWorthlessSo 126 = .ok (.invokevirtual 35, 3) := by decide +kernel
theorem dL_isWorthlessSo_129 : decode cL_isWorthlessSo 129 = .ok (.ifCond .le 7, 3) := by decide +kernel
theorem dL_isWorthlessSo_132 : decode cL_isWorthlessSo 132 = .ok (.iconst 1, 1) := by decide +kernel
theorem dL_isWorthlessSo_133 : decode cL_isWorthlessSo 133 = .ok (.goto 4, 3) := by decide +kernel
theorem dL_isWorthlessSo_136 : decode cL_isWorthlessSo 136 = .ok (.iconst 0, 1) := by decide +kernel
theorem dL_isWorthlessSo_137 : decode cL_isWorthlessSo 137 = .ok (.istore_n 3, 1) := by decide +kernel
theorem dL_isWorthlessSo_138 : decode cL_isWorthlessSo 138 = .ok (.aload_n 0, 1) := by decide +kernel
theorem dL_isWorthlessSo_139 : decode cL_isWorthlessSo 139 = .ok (.invokevirtual 69, 3) := by decide +kernel
theorem dL_isWorthlessSo_142 : decode cL_isWorthlessSo 142 = .ok (.pop, 1) := by decide +kernel
theorem dL_isWorthlessSo_143 : decode cL_isWorthlessSo 143 = .ok (.iload_n 3, 1) := by decide +kernel
theorem dL_isWorthlessSo_144 : decode cL_isWorthlessSo 144 = .ok (.ireturn, 1) := by decide +kernel
theorem dL_law_0 : decode cL_law 0 = .ok (.new 9, 3) := by decide +kernel
theorem dL_law_3 : decode cL_law 3 = .ok (.dup, 1) := by decide +kernel
theorem dL_law_4 : decode cL_law 4 = .ok (.invokespecial 73, 3) := by decide +kernel
theorem dL_law_7 : decode cL_law 7 = .ok (.astore_n 1, 1) := by decide +kernel
theorem dL_law_8 : decode cL_law 8 = .ok (.aload_n 1, 1) := by decide +kernel
theorem dL_law_9 : decode cL_law 9 = .ok (.iconst 3, 1) := by decide +kernel
theorem dL_law_10 : decode cL_law 10 = .ok (.invokevirtual 20, 3) := by decide +kernel
theorem dL_law_13 : decode cL_law 13 = .ok (.istore_n 2, 1) := by decide +kernel
theorem dL_law_14 : decode cL_law 14 = .ok (.iconst 0, 1) := by decide +kernel
theorem dL_law_15 : decode cL_law 15 = .ok (.istore_n 3, 1) := by decide +kernel
theorem dL_law_16 : decode cL_law 16 = .ok (.iconst 0, 1) := by decide +kernel
theorem dL_law_17 : decode cL_law 17 = .ok (.istore 4, 2) := by decide +kernel
theorem dL_law_19 : decode cL_law 19 = .ok (.iload 4, 2) := by decide +kernel
theorem dL_law_21 : decode cL_law 21 = .ok (.bipush 56, 2) := by decide +kernel
theorem dL_law_23 : decode cL_law 23 = .ok (.if_icmp .ge 219, 3) := by decide +kernel
theorem dL_law_26 : decode cL_law 26 = .ok (.aload_n 0, 1) := by decide +kernel
theorem dL_law_27 : decode cL_law 27 = .ok (.iload 4, 2) := by decide +kernel
theorem dL_law_29 : decode cL_law 29 = .ok (.invokestatic 74, 3) := by decide +kernel
theorem dL_law_32 : decode cL_law 32 = .ok (.istore 5, 2) := by decide +kernel
theorem dL_law_34 : decode cL_law 34 = .ok (.aload_n 1, 1) := by decide +kernel
theorem dL_law_35 : decode cL_law 35 = .ok (.iconst 5, 1) := by decide +kernel
theorem dL_law_36 : decode cL_law 36 = .ok (.invokevirtual 8, 3) := by decide +kernel
theorem dL_law_39 : decode cL_law 39 = .ok (.istore 6, 2) := by decide +kernel
theorem dL_law_41 : decode cL_law 41 = .ok (.iload 6, 2) := by decide +kernel
theorem dL_law_43 : decode cL_law 43 = .ok (.ifCond .ne 7, 3) := by decide +kernel
theorem dL_law_46 : decode cL_law 46 = .ok (.iconst 0, 1) := by decide +kernel
theorem dL_law_47 : decode cL_law 47 = .ok (.goto 12, 3) := by decide +kernel
theorem dL_law_50 : decode cL_law 50 = .ok (.iload 5, 2) := by decide +kernel
theorem dL_law_52 : decode cL_law 52 = .ok (.iconst 4, 1) := by decide +kernel
theorem dL_law_53 : decode cL_law 53 = .ok (.ishr, 1) := by decide +kernel
theorem dL_law_54 : decode cL_law 54 = .ok (.iload 6, 2) := by decide +kernel
theorem dL_law_56 : decode cL_law 56 = .ok (.invokestatic 14, 3) := by decide +kernel
theorem dL_law_59 : decode cL_law 59 = .ok (.istore 7, 2) := by decide +kernel
theorem dL_law_61 : decode cL_law 61 = .ok (.iload 6, 2) := by decide +kernel
theorem dL_law_63 : decode cL_law 63 = .ok (.ifCond .le 18, 3) := by decide +kernel
theorem dL_law_66 : decode cL_law 66 = .ok (.aload_n 1, 1) := by decide +kernel
theorem dL_law_67 : decode cL_law 67 = .ok (.iload 7, 2) := by decide +kernel
theorem dL_law_69 : decode cL_law 69 = .ok (.iconst 4, 1) := by decide +kernel
theorem dL_law_70 : decode cL_law 70 = .ok (.invokevirtual 35, 3) := by decide +kernel
theorem dL_law_73 : decode cL_law 73 = .ok (.iconst 1, 1) := by decide +kernel
theorem dL_law_74 : decode cL_law 74 = .ok (.if_icmp .ne 7, 3) := by decide +kernel
theorem dL_law_77 : decode cL_law 77 = .ok (.iconst 1, 1) := by decide +kernel
theorem dL_law_78 : decode cL_law 78 = .ok (.goto 4, 3) := by decide +kernel
theorem dL_law_81 : decode cL_law 81 = .ok (.iconst 0, 1) := by decide +kernel
theorem dL_law_82 : decode cL_law 82 = .ok (.istore 8, 2) := by decide +kernel
theorem dL_law_84 : decode cL_law 84 = .ok (.aload_n 1, 1) := by decide +kernel
theorem dL_law_85 : decode cL_law 85 = .ok (.bipush 11, 2) := by decide +kernel
theorem dL_law_87 : decode cL_law 87 = .ok (.invokevirtual 8, 3) := by decide +kernel
theorem dL_law_90 : decode cL_law 90 = .ok (.istore 9, 2) := by decide +kernel
theorem dL_law_92 : decode cL_law 92 = .ok (.aload_n 1, 1) := by decide +kernel
theorem dL_law_93 : decode cL_law 93 = .ok (.iload 5, 2) := by decide +kernel
theorem dL_law_95 : decode cL_law 95 = .ok (.invokestatic 78, 3) := by decide +kernel
theorem dL_law_98 : decode cL_law 98 = .ok (.istore 10, 2) := by decide +kernel
theorem dL_law_100 : decode cL_law 100 = .ok (.iload_n 3, 1) := by decide +kernel
theorem dL_law_101 : decode cL_law 101 = .ok (.iload 8, 2) := by decide +kernel
theorem dL_law_103 : decode cL_law 103 = .ok (.ifCond .eq 15, 3) := by decide +kernel
theorem dL_law_106 : decode cL_law 106 = .ok (.aload_n 1, 1) := by decide +kernel
theorem dL_law_107 : decode cL_law 107 = .ok (.bipush 11, 2) := by decide +kernel
theorem dL_law_109 : decode cL_law 109 = .ok (.invokevirtual 8, 3) := by decide +kernel
theorem dL_law_112 : decode cL_law 112 = .ok (.iload 9, 2) := by decide +kernel
theorem dL_law_114 : decode cL_law 114 = .ok (.isub, 1) := by decide +kernel
theorem dL_law_115 : decode cL_law 115 = .ok (.goto 4, 3) := by decide +kernel
theorem dL_law_118 : decode cL_law 118 = .ok (.iconst 0, 1) := by decide +kernel
theorem dL_law_119 : decode cL_law 119 = .ok (.iadd, 1) := by decide +kernel
theorem dL_law_120 : decode cL_law 120 = .ok (.istore_n 3, 1) := by decide +kernel
theorem dL_law_121 : decode cL_law 121 = .ok (.iload 5, 2) := by decide +kernel
theorem dL_law_123 : decode cL_law 123 = .ok (.bipush 15, 2) := by decide +kernel
theorem dL_law_125 : decode cL_law 125 = .ok (.iand, 1) := by decide +kernel
theorem dL_law_126 : decode cL_law 126 = .ok (.bipush 6, 2) := by decide +kernel
theorem dL_law_128 : decode cL_law 128 = .ok (.if_icmp .ne 24, 3) := by decide +kernel
theorem dL_law_131 : decode cL_law 131 = .ok (.iload 10, 2) := by decide +kernel
theorem dL_law_133 : decode cL_law 133 = .ok (.ifCond .lt 19, 3) := by decide +kernel
theorem dL_law_136 : decode cL_law 136 = .ok (.aload_n 1, 1) := by decide +kernel
theorem dL_law_137 : decode cL_law 137 = .ok (.iconst 1, 1) := by decide +kernel
theorem dL_law_138 : decode cL_law 138 = .ok (.invokevirtual 8, 3) := by decide +kernel
theorem dL_law_141 : decode cL_law 141 = .ok (.ldc 56, 2) := by decide +kernel
theorem dL_law_143 : decode cL_law 143 = .ok (.isub, 1) := by decide +kernel
theorem dL_law_144 : decode cL_law 144 = .ok (.aload_n 1, 1) := by decide +kernel
theorem dL_law_145 : decode cL_law 145 = .ok (.iconst 3, 1) := by decide +kernel
theorem dL_law_146 : decode cL_law 146 = .ok (.invokevirtual 8, 3) := by decide +kernel
theorem dL_law_149 : decode cL_law 149 = .ok (.if_icmp .lt 7, 3) := by decide +kernel
theorem dL_law_152 : decode cL_law 152 = .ok (.iconst 1, 1) := by decide +kernel
theorem dL_law_153 : decode cL_law 153 = .ok (.goto 4, 3) := by decide +kernel
theorem dL_law_156 : decode cL_law 156 = .ok (.iconst 0, 1) := by decide +kernel
theorem dL_law_157 : decode cL_law 157 = .ok (.istore 11, 2) := by decide +kernel
theorem dL_law_159 : decode cL_law 159 = .ok (.iload 10, 2) := by decide +kernel
theorem dL_law_161 : decode cL_law 161 = .ok (.bipush (-5), 2) := by decide +kernel
theorem dL_law_163 : decode cL_law 163 = .ok (.if_icmp .lt 31, 3) := by decide +kernel
theorem dL_law_166 : decode cL_law 166 = .ok (.iload 11, 2) := by decide +kernel
theorem dL_law_168 : decode cL_law 168 = .ok (.ifCond .eq 26, 3) := by decide +kernel
theorem dL_law_171 : decode cL_law 171 = .ok (.aload_n 1, 1) := by decide +kernel
theorem dL_law_172 : decode cL_law 172 = .ok (.iload_n 3, 1) := by decide +kernel
theorem dL_law_173 : decode cL_law 173 = .ok (.invokestatic 82, 3) := by decide +kernel
theorem dL_law_176 : decode cL_law 176 = .ok (.ifCond .eq 18, 3) := by decide +kernel
theorem dL_law_179 : decode cL_law 179 = .ok (.iload 4, 2) := by decide +kernel
theorem dL_law_181 : decode cL_law 181 = .ok (.iconst 4, 1) := by decide +kernel
theorem dL_law_182 : decode cL_law 182 = .ok (.irem, 1) := by decide +kernel
theorem dL_law_183 : decode cL_law 183 = .ok (.iconst 3, 1) := by decide +kernel
theorem dL_law_184 : decode cL_law 184 = .ok (.if_icmp .ne 12, 3) := by decide +kernel
theorem dL_law_187 : decode cL_law 187 = .ok (.aload_n 1, 1) := by decide +kernel
theorem dL_law_188 : decode cL_law 188 = .ok (.invokestatic 86, 3) := by decide +kernel
theorem dL_law_191 : decode cL_law 191 = .ok (.ifCond .ne 5, 3) := by decide +kernel
theorem dL_law_194 : decode cL_law 194 = .ok (.iconst 0, 1) := by decide +kernel
theorem dL_law_195 : decode cL_law 195 = .ok (.ireturn, 1) := by decide +kernel
theorem dL_law_196 : decode cL_law 196 = .ok (.aload_n 1, 1) := by decide +kernel
theorem dL_law_197 : decode cL_law 197 = .ok (.iconst 5, 1) := by decide +kernel
theorem dL_law_198 : decode cL_law 198 = .ok (.invokevirtual 8, 3) := by decide +kernel
theorem dL_law_201 : decode cL_law 201 = .ok (.istore 12, 2) := by decide +kernel
theorem dL_law_203 : decode cL_law 203 = .ok (.iload 4, 2) := by decide +kernel
theorem dL_law_205 : decode cL_law 205 = .ok (.bipush 6, 2) := by decide +kernel
theorem dL_law_207 : decode cL_law 207 = .ok (.irem, 1) := by decide +kernel
theorem dL_law_208 : decode cL_law 208 = .ok (.iconst 5, 1) := by decide +kernel
theorem dL_law_209 : decode cL_law 209 = .ok (.if_icmp .ne 27, 3) := by decide +kernel
theorem dL_law_212 : decode cL_law 212 = .ok (.iload 12, 2) := by decide +kernel
theorem dL_law_214 : decode cL_law 214 = .ok (.ifCond .le 22, 3) := by decide +kernel
theorem dL_law_217 : decode cL_law 217 = .ok (.aload_n 1, 1) := by decide +kernel
theorem dL_law_218 : decode cL_law 218 = .ok (.iload 5, 2) := by decide +kernel
theorem dL_law_220 : decode cL_law 220 = .ok (.bipush 8, 2) := by decide +kernel
theorem dL_law_222 : decode cL_law 222 = .ok (.ishr, 1) := by decide +kernel
theorem dL_law_223 : decode cL_law 223 = .ok (.iload 12, 2) := by decide +kernel
theorem dL_law_225 : decode cL_law 225 = .ok (.invokestatic 14, 3) := by decide +kernel
theorem dL_law_228 : decode cL_law 228 = .ok (.invokestatic 90, 3) := by decide +kernel
theorem dL_law_231 : decode cL_law 231 = .ok (.ifCond .ne 5, 3) := by decide +kernel
theorem dL_law_234 : decode cL_law 234 = .ok (.iconst 0, 1) := by decide +kernel
theorem dL_law_235 : decode cL_law 235 = .ok (.ireturn, 1) := by decide +kernel
theorem dL_law_236 : decode cL_law 236 = .ok (.iinc 4 1, 3) := by decide +kernel
theorem dL_law_239 : decode cL_law 239 = .ok (.goto (-220), 3) := by decide +kernel
theorem dL_law_242 : decode cL_law 242 = .ok (.iload_n 2, 1) := by decide +kernel
theorem dL_law_243 : decode cL_law 243 = .ok (.ifCond .ne 7, 3) := by decide +kernel
theorem dL_law_246 : decode cL_law 246 = .ok (.iconst 1, 1) := by decide +kernel
theorem dL_law_247 : decode cL_law 247 = .ok (.goto 4, 3) := by decide +kernel
theorem dL_law_250 : decode cL_law 250 = .ok (.iconst 0, 1) := by decide +kernel
theorem dL_law_251 : decode cL_law 251 = .ok (.ireturn, 1) := by decide +kernel
