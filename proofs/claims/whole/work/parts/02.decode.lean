theorem dX0_init_0 : decode cX0_init 0 = .ok (.aload_n 0, 1) := by decide +kernel
theorem dX0_init_1 : decode cX0_init 1 = .ok (.invokespecial 3, 3) := by decide +kernel
theorem dX0_init_4 : decode cX0_init 4 = .ok (.aload_n 0, 1) := by decide +kernel
theorem dX0_init_5 : decode cX0_init 5 = .ok (.new 9, 3) := by decide +kernel
theorem dX0_init_8 : decode cX0_init 8 = .ok (.dup, 1) := by decide +kernel
theorem dX0_init_9 : decode cX0_init 9 = .ok (.invokespecial 11, 3) := by decide +kernel
theorem dX0_init_12 : decode cX0_init 12 = .ok (.putfield 12, 3) := by decide +kernel
theorem dX0_init_15 : decode cX0_init 15 = .ok (.aload_n 0, 1) := by decide +kernel
theorem dX0_init_16 : decode cX0_init 16 = .ok (.new 18, 3) := by decide +kernel
theorem dX0_init_19 : decode cX0_init 19 = .ok (.dup, 1) := by decide +kernel
theorem dX0_init_20 : decode cX0_init 20 = .ok (.invokespecial 20, 3) := by decide +kernel
theorem dX0_init_23 : decode cX0_init 23 = .ok (.putfield 21, 3) := by decide +kernel
theorem dX0_init_26 : decode cX0_init 26 = .ok (.aload_n 0, 1) := by decide +kernel
theorem dX0_init_27 : decode cX0_init 27 = .ok (.new 25, 3) := by decide +kernel
theorem dX0_init_30 : decode cX0_init 30 = .ok (.dup, 1) := by decide +kernel
theorem dX0_init_31 : decode cX0_init 31 = .ok (.invokespecial 27, 3) := by decide +kernel
theorem dX0_init_34 : decode cX0_init 34 = .ok (.putfield 28, 3) := by decide +kernel
theorem dX0_init_37 : decode cX0_init 37 = .ok (.aload_n 0, 1) := by decide +kernel
theorem dX0_init_38 : decode cX0_init 38 = .ok (.iconst 3, 1) := by decide +kernel
theorem dX0_init_39 : decode cX0_init 39 = .ok (.newarray .float, 2) := by decide +kernel
theorem dX0_init_41 : decode cX0_init 41 = .ok (.putfield 32, 3) := by decide +kernel
theorem dX0_init_44 : decode cX0_init 44 = .ok (.aload_n 0, 1) := by decide +kernel
theorem dX0_init_45 : decode cX0_init 45 = .ok (.iconst 3, 1) := by decide +kernel
theorem dX0_init_46 : decode cX0_init 46 = .ok (.newarray .int, 2) := by decide +kernel
theorem dX0_init_48 : decode cX0_init 48 = .ok (.putfield 36, 3) := by decide +kernel
theorem dX0_init_51 : decode cX0_init 51 = .ok (.aload_n 0, 1) := by decide +kernel
theorem dX0_init_52 : decode cX0_init 52 = .ok (.getfield 32, 3) := by decide +kernel
theorem dX0_init_55 : decode cX0_init 55 = .ok (.iconst 0, 1) := by decide +kernel
theorem dX0_init_56 : decode cX0_init 56 = .ok (.ldc 40, 2) := by decide +kernel
theorem dX0_init_58 : decode cX0_init 58 = .ok (.fastore, 1) := by decide +kernel
theorem dX0_init_59 : decode cX0_init 59 = .ok (.aload_n 0, 1) := by decide +kernel
theorem dX0_init_60 : decode cX0_init 60 = .ok (.getfield 32, 3) := by decide +kernel
theorem dX0_init_63 : decode cX0_init 63 = .ok (.iconst 1, 1) := by decide +kernel
theorem dX0_init_64 : decode cX0_init 64 = .ok (.ldc 41, 2) := by decide +kernel
theorem dX0_init_66 : decode cX0_init 66 = .ok (.fastore, 1) := by decide +kernel
theorem dX0_init_67 : decode cX0_init 67 = .ok (.aload_n 0, 1) := by decide +kernel
theorem dX0_init_68 : decode cX0_init 68 = .ok (.getfield 32, 3) := by decide +kernel
theorem dX0_init_71 : decode cX0_init 71 = .ok (.iconst 2, 1) := by decide +kernel
theorem dX0_init_72 : decode cX0_init 72 = .ok (.ldc 42, 2) := by decide +kernel
theorem dX0_init_74 : decode cX0_init 74 = .ok (.fastore, 1) := by decide +kernel
theorem dX0_init_75 : decode cX0_init 75 = .ok (.aload_n 0, 1) := by decide +kernel
theorem dX0_init_76 : decode cX0_init 76 = .ok (.getfield 36, 3) := by decide +kernel
theorem dX0_init_79 : decode cX0_init 79 = .ok (.iconst 0, 1) := by decide +kernel
theorem dX0_init_80 : decode cX0_init 80 = .ok (.bipush 14, 2) := by decide +kernel
theorem dX0_init_82 : decode cX0_init 82 = .ok (.iastore, 1) := by decide +kernel
theorem dX0_init_83 : decode cX0_init 83 = .ok (.aload_n 0, 1) := by decide +kernel
theorem dX0_init_84 : decode cX0_init 84 = .ok (.getfield 36, 3) := by decide +kernel
theorem dX0_init_87 : decode cX0_init 87 = .ok (.iconst 1, 1) := by decide +kernel
theorem dX0_init_88 : decode cX0_init 88 = .ok (.bipush 20, 2) := by decide +kernel
theorem dX0_init_90 : decode cX0_init 90 = .ok (.iastore, 1) := by decide +kernel
theorem dX0_init_91 : decode cX0_init 91 = .ok (.aload_n 0, 1) := by decide +kernel
theorem dX0_init_92 : decode cX0_init 92 = .ok (.getfield 36, 3) := by decide +kernel
theorem dX0_init_95 : decode cX0_init 95 = .ok (.iconst 2, 1) := by decide +kernel
theorem dX0_init_96 : decode cX0_init 96 = .ok (.bipush 120, 2) := by decide +kernel
theorem dX0_init_98 : decode cX0_init 98 = .ok (.iastore, 1) := by decide +kernel
theorem dX0_init_99 : decode cX0_init 99 = .ok (.return_, 1) := by decide +kernel
theorem dX0_reserveCents_0 : decode cX0_reserveCents 0 = .ok (.aload_n 0, 1) := by decide +kernel
theorem dX0_reserveCents_1 : decode cX0_reserveCents 1 = .ok (.getfield 12, 3) := by decide +kernel
theorem dX0_reserveCents_4 : decode cX0_reserveCents 4 = .ok (.invokevirtual 43, 3) := by decide +kernel
theorem dX0_reserveCents_7 : decode cX0_reserveCents 7 = .ok (.i2l, 1) := by decide +kernel
theorem dX0_reserveCents_8 : decode cX0_reserveCents 8 = .ok (.aload_n 0, 1) := by decide +kernel
theorem dX0_reserveCents_9 : decode cX0_reserveCents 9 = .ok (.getfield 36, 3) := by decide +kernel
theorem dX0_reserveCents_12 : decode cX0_reserveCents 12 = .ok (.iconst 1, 1) := by decide +kernel
theorem dX0_reserveCents_13 : decode cX0_reserveCents 13 = .ok (.iaload, 1) := by decide +kernel
theorem dX0_reserveCents_14 : decode cX0_reserveCents 14 = .ok (.i2l, 1) := by decide +kernel
theorem dX0_reserveCents_15 : decode cX0_reserveCents 15 = .ok (.lmul, 1) := by decide +kernel
theorem dX0_reserveCents_16 : decode cX0_reserveCents 16 = .ok (.ldc2_w 47, 3) := by decide +kernel
theorem dX0_reserveCents_19 : decode cX0_reserveCents 19 = .ok (.ldiv, 1) := by decide +kernel
theorem dX0_reserveCents_20 : decode cX0_reserveCents 20 = .ok (.l2i, 1) := by decide +kernel
theorem dX0_reserveCents_21 : decode cX0_reserveCents 21 = .ok (.ireturn, 1) := by decide +kernel
theorem dX0_ageOf_0 : decode cX0_ageOf 0 = .ok (.aload_n 0, 1) := by decide +kernel
theorem dX0_ageOf_1 : decode cX0_ageOf 1 = .ok (.getfield 28, 3) := by decide +kernel
theorem dX0_ageOf_4 : decode cX0_ageOf 4 = .ok (.iload_n 1, 1) := by decide +kernel
theorem dX0_ageOf_5 : decode cX0_ageOf 5 = .ok (.invokevirtual 49, 3) := by decide +kernel
theorem dX0_ageOf_8 : decode cX0_ageOf 8 = .ok (.ifCond .eq 20, 3) := by decide +kernel
theorem dX0_ageOf_11 : decode cX0_ageOf 11 = .ok (.aload_n 0, 1) := by decide +kernel
theorem dX0_ageOf_12 : decode cX0_ageOf 12 = .ok (.getfield 53, 3) := by decide +kernel
theorem dX0_ageOf_15 : decode cX0_ageOf 15 = .ok (.aload_n 0, 1) := by decide +kernel
theorem dX0_ageOf_16 : decode cX0_ageOf 16 = .ok (.getfield 28, 3) := by decide +kernel
theorem dX0_ageOf_19 : decode cX0_ageOf 19 = .ok (.getfield 57, 3) := by decide +kernel
theorem dX0_ageOf_22 : decode cX0_ageOf 22 = .ok (.iload_n 1, 1) := by decide +kernel
theorem dX0_ageOf_23 : decode cX0_ageOf 23 = .ok (.iaload, 1) := by decide +kernel
theorem dX0_ageOf_24 : decode cX0_ageOf 24 = .ok (.isub, 1) := by decide +kernel
theorem dX0_ageOf_25 : decode cX0_ageOf 25 = .ok (.goto 4, 3) := by decide +kernel
theorem dX0_ageOf_28 : decode cX0_ageOf 28 = .ok (.iconst 0, 1) := by decide +kernel
theorem dX0_ageOf_29 : decode cX0_ageOf 29 = .ok (.ireturn, 1) := by decide +kernel
theorem dX0_lateAfter_0 : decode cX0_lateAfter 0 = .ok (.aload_n 0, 1) := by decide +kernel
theorem dX0_lateAfter_1 : decode cX0_lateAfter 1 = .ok (.iload_n 1, 1) := by decide +kernel
theorem dX0_lateAfter_2 : decode cX0_lateAfter 2 = .ok (.invokevirtual 60, 3) := by decide +kernel
theorem dX0_lateAfter_5 : decode cX0_lateAfter 5 = .ok (.iload_n 2, 1) := by decide +kernel
theorem dX0_lateAfter_6 : decode cX0_lateAfter 6 = .ok (.iadd, 1) := by decide +kernel
theorem dX0_lateAfter_7 : decode cX0_lateAfter 7 = .ok (.istore_n 3, 1) := by decide +kernel
theorem dX0_lateAfter_8 : decode cX0_lateAfter 8 = .ok (.iload_n 3, 1) := by decide +kernel
theorem dX0_lateAfter_9 : decode cX0_lateAfter 9 = .ok (.ifCond .le 7, 3) := by decide +kernel
theorem dX0_lateAfter_12 : decode cX0_lateAfter 12 = .ok (.iload_n 3, 1) := by decide +kernel
theorem dX0_lateAfter_13 : decode cX0_lateAfter 13 = .ok (.goto 4, 3) := by decide +kernel
theorem dX0_lateAfter_16 : decode cX0_lateAfter 16 = .ok (.iconst 0, 1) := by decide +kernel
theorem dX0_lateAfter_17 : decode cX0_lateAfter 17 = .ok (.ireturn, 1) := by decide +kernel
theorem dX0_rateAfter_0 : decode cX0_rateAfter 0 = .ok (.aload_n 0, 1) := by decide +kernel
theorem dX0_rateAfter_1 : decode cX0_rateAfter 1 = .ok (.getfield 28, 3) := by decide +kernel
theorem dX0_rateAfter_4 : decode cX0_rateAfter 4 = .ok (.iload_n 1, 1) := by decide +kernel
theorem dX0_rateAfter_5 : decode cX0_rateAfter 5 = .ok (.invokevirtual 49, 3) := by decide +kernel
theorem dX0_rateAfter_8 : decode cX0_rateAfter 8 = .ok (.ifCond .ne 7, 3) := by decide +kernel
theorem dX0_rateAfter_11 : decode cX0_rateAfter 11 = .ok (.invokestatic 64, 3) := by decide +kernel
theorem dX0_rateAfter_14 : decode cX0_rateAfter 14 = .ok (.freturn, 1) := by decide +kernel
theorem dX0_rateAfter_15 : decode cX0_rateAfter 15 = .ok (.aload_n 0, 1) := by decide +kernel
theorem dX0_rateAfter_16 : decode cX0_rateAfter 16 = .ok (.getfield 32, 3) := by decide +kernel
theorem dX0_rateAfter_19 : decode cX0_rateAfter 19 = .ok (.iconst 0, 1) := by decide +kernel
theorem dX0_rateAfter_20 : decode cX0_rateAfter 20 = .ok (.faload, 1) := by decide +kernel
theorem dX0_rateAfter_21 : decode cX0_rateAfter 21 = .ok (.aload_n 0, 1) := by decide +kernel
theorem dX0_rateAfter_22 : decode cX0_rateAfter 22 = .ok (.getfield 32, 3) := by decide +kernel
theorem dX0_rateAfter_25 : decode cX0_rateAfter 25 = .ok (.iconst 1, 1) := by decide +kernel
theorem dX0_rateAfter_26 : decode cX0_rateAfter 26 = .ok (.faload, 1) := by decide +kernel
theorem dX0_rateAfter_27 : decode cX0_rateAfter 27 = .ok (.aload_n 0, 1) := by decide +kernel
theorem dX0_rateAfter_28 : decode cX0_rateAfter 28 = .ok (.iload_n 1, 1) := by decide +kernel
theorem dX0_rateAfter_29 : decode cX0_rateAfter 29 = .ok (.iload_n 2, 1) := by decide +kernel
theorem dX0_rateAfter_30 : decode cX0_rateAfter 30 = .ok (.invokevirtual 68, 3) := by decide +kernel
theorem dX0_rateAfter_33 : decode cX0_rateAfter 33 = .ok (.i2f, 1) := by decide +kernel
theorem dX0_rateAfter_34 : decode cX0_rateAfter 34 = .ok (.fmul, 1) := by decide +kernel
theorem dX0_rateAfter_35 : decode cX0_rateAfter 35 = .ok (.fsub, 1) := by decide +kernel
theorem dX0_rateAfter_36 : decode cX0_rateAfter 36 = .ok (.fstore_n 3, 1) := by decide +kernel
theorem dX0_rateAfter_37 : decode cX0_rateAfter 37 = .ok (.fload_n 3, 1) := by decide +kernel
theorem dX0_rateAfter_38 : decode cX0_rateAfter 38 = .ok (.fconst 0, 1) := by decide +kernel
theorem dX0_rateAfter_39 : decode cX0_rateAfter 39 = .ok (.fcmp .l, 1) := by decide +kernel
theorem dX0_rateAfter_40 : decode cX0_rateAfter 40 = .ok (.ifCond .le 7, 3) := by decide +kernel
theorem dX0_rateAfter_43 : decode cX0_rateAfter 43 = .ok (.fload_n 3, 1) := by decide +kernel
theorem dX0_rateAfter_44 : decode cX0_rateAfter 44 = .ok (.goto 4, 3) := by decide +kernel
theorem dX0_rateAfter_47 : decode cX0_rateAfter 47 = .ok (.fconst 0, 1) := by decide +kernel
theorem dX0_rateAfter_48 : decode cX0_rateAfter 48 = .ok (.fstore 4, 2) := by decide +kernel
theorem dX0_rateAfter_50 : decode cX0_rateAfter 50 = .ok (.fload 4, 2) := by decide +kernel
theorem dX0_rateAfter_52 : decode cX0_rateAfter 52 = .ok (.fconst 1, 1) := by decide +kernel
theorem dX0_rateAfter_53 : decode cX0_rateAfter 53 = .ok (.aload_n 0, 1) := by decide +kernel
theorem dX0_rateAfter_54 : decode cX0_rateAfter 54 = .ok (.getfield 21, 3) := by decide +kernel
theorem dX0_rateAfter_57 : decode cX0_rateAfter 57 = .ok (.aload_n 0, 1) := by decide +kernel
theorem dX0_rateAfter_58 : decode cX0_rateAfter 58 = .ok (.getfield 28, 3) := by decide +kernel
theorem dX0_rateAfter_61 : decode cX0_rateAfter 61 = .ok (.getfield 72, 3) := by decide +kernel
theorem dX0_rateAfter_64 : decode cX0_rateAfter 64 = .ok (.iload_n 1, 1) := by decide +kernel
theorem dX0_rateAfter_65 : decode cX0_rateAfter 65 = .ok (.iaload, 1) := by decide +kernel
theorem dX0_rateAfter_66 : decode cX0_rateAfter 66 = .ok (.invokevirtual 75, 3) := by decide +kernel
theorem dX0_rateAfter_69 : decode cX0_rateAfter 69 = .ok (.fsub, 1) := by decide +kernel
theorem dX0_rateAfter_70 : decode cX0_rateAfter 70 = .ok (.fmul, 1) := by decide +kernel
theorem dX0_rateAfter_71 : decode cX0_rateAfter 71 = .ok (.freturn, 1) := by decide +kernel
theorem dX0_offerAfter_0 : decode cX0_offerAfter 0 = .ok (.aload_n 0, 1) := by decide +kernel
theorem dX0_offerAfter_1 : decode cX0_offerAfter 1 = .ok (.getfield 28, 3) := by decide +kernel
theorem dX0_offerAfter_4 : decode cX0_offerAfter 4 = .ok (.iload_n 1, 1) := by decide +kernel
theorem dX0_offerAfter_5 : decode cX0_offerAfter 5 = .ok (.invokevirtual 49, 3) := by decide +kernel
theorem dX0_offerAfter_8 : decode cX0_offerAfter 8 = .ok (.ifCond .ne 5, 3) := by decide +kernel
theorem dX0_offerAfter_11 : decode cX0_offerAfter 11 = .ok (.iconst 0, 1) := by decide +kernel
theorem dX0_offerAfter_12 : decode cX0_offerAfter 12 = .ok (.ireturn, 1) := by decide +kernel
theorem dX0_offerAfter_13 : decode cX0_offerAfter 13 = .ok (.aload_n 0, 1) := by decide +kernel
theorem dX0_offerAfter_14 : decode cX0_offerAfter 14 = .ok (.getfield 28, 3) := by decide +kernel
theorem dX0_offerAfter_17 : decode cX0_offerAfter 17 = .ok (.getfield 79, 3) := by decide +kernel
theorem dX0_offerAfter_20 : decode cX0_offerAfter 20 = .ok (.iload_n 1, 1) := by decide +kernel
theorem dX0_offerAfter_21 : decode cX0_offerAfter 21 = .ok (.iaload, 1) := by decide +kernel
theorem dX0_offerAfter_22 : decode cX0_offerAfter 22 = .ok (.i2f, 1) := by decide +kernel
theorem dX0_offerAfter_23 : decode cX0_offerAfter 23 = .ok (.aload_n 0, 1) := by decide +kernel
theorem dX0_offerAfter_24 : decode cX0_offerAfter 24 = .ok (.iload_n 1, 1) := by decide +kernel
theorem dX0_offerAfter_25 : decode cX0_offerAfter 25 = .ok (.iload_n 2, 1) := by decide +kernel
theorem dX0_offerAfter_26 : decode cX0_offerAfter 26 = .ok (.invokevirtual 82, 3) := by decide +kernel
theorem dX0_offerAfter_29 : decode cX0_offerAfter 29 = .ok (.fmul, 1) := by decide +kernel
theorem dX0_offerAfter_30 : decode cX0_offerAfter 30 = .ok (.f2i, 1) := by decide +kernel
theorem dX0_offerAfter_31 : decode cX0_offerAfter 31 = .ok (.ireturn, 1) := by decide +kernel
theorem dX0_worthOf_0 : decode cX0_worthOf 0 = .ok (.aload_n 0, 1) := by decide +kernel
theorem dX0_worthOf_1 : decode cX0_worthOf 1 = .ok (.getfield 28, 3) := by decide +kernel
theorem dX0_worthOf_4 : decode cX0_worthOf 4 = .ok (.iload_n 1, 1) := by decide +kernel
theorem dX0_worthOf_5 : decode cX0_worthOf 5 = .ok (.invokevirtual 49, 3) := by decide +kernel
theorem dX0_worthOf_8 : decode cX0_worthOf 8 = .ok (.ifCond .ne 7, 3) := by decide +kernel
theorem dX0_worthOf_11 : decode cX0_worthOf 11 = .ok (.invokestatic 64, 3) := by decide +kernel
theorem dX0_worthOf_14 : decode cX0_worthOf 14 = .ok (.freturn, 1) := by decide +kernel
theorem dX0_worthOf_15 : decode cX0_worthOf 15 = .ok (.aload_n 0, 1) := by decide +kernel
theorem dX0_worthOf_16 : decode cX0_worthOf 16 = .ok (.iload_n 1, 1) := by decide +kernel
theorem dX0_worthOf_17 : decode cX0_worthOf 17 = .ok (.iconst 0, 1) := by decide +kernel
theorem dX0_worthOf_18 : decode cX0_worthOf 18 = .ok (.invokevirtual 86, 3) := by decide +kernel
theorem dX0_worthOf_21 : decode cX0_worthOf 21 = .ok (.istore_n 2, 1) := by decide +kernel
theorem dX0_worthOf_22 : decode cX0_worthOf 22 = .ok (.aload_n 0, 1) := by decide +kernel
theorem dX0_worthOf_23 : decode cX0_worthOf 23 = .ok (.getfield 21, 3) := by decide +kernel
theorem dX0_worthOf_26 : decode cX0_worthOf 26 = .ok (.aload_n 0, 1) := by decide +kernel
theorem dX0_worthOf_27 : decode cX0_worthOf 27 = .ok (.getfield 28, 3) := by decide +kernel
theorem dX0_worthOf_30 : decode cX0_worthOf 30 = .ok (.getfield 72, 3) := by decide +kernel
theorem dX0_worthOf_33 : decode cX0_worthOf 33 = .ok (.iload_n 1, 1) := by decide +kernel
theorem dX0_worthOf_34 : decode cX0_worthOf 34 = .ok (.iaload, 1) := by decide +kernel
theorem dX0_worthOf_35 : decode cX0_worthOf 35 = .ok (.invokevirtual 75, 3) := by decide +kernel
theorem dX0_worthOf_38 : decode cX0_worthOf 38 = .ok (.fstore_n 3, 1) := by decide +kernel
theorem dX0_worthOf_39 : decode cX0_worthOf 39 = .ok (.aload_n 0, 1) := by decide +kernel
theorem dX0_worthOf_40 : decode cX0_worthOf 40 = .ok (.getfield 28, 3) := by decide +kernel
theorem dX0_worthOf_43 : decode cX0_worthOf 43 = .ok (.getfield 79, 3) := by decide +kernel
theorem dX0_worthOf_46 : decode cX0_worthOf 46 = .ok (.iload_n 1, 1) := by decide +kernel
theorem dX0_worthOf_47 : decode cX0_worthOf 47 = .ok (.iaload, 1) := by decide +kernel
theorem dX0_worthOf_48 : decode cX0_worthOf 48 = .ok (.iload_n 2, 1) := by decide +kernel
theorem dX0_worthOf_49 : decode cX0_worthOf 49 = .ok (.isub, 1) := by decide +kernel
theorem dX0_worthOf_50 : decode cX0_worthOf 50 = .ok (.i2f, 1) := by decide +kernel
theorem dX0_worthOf_51 : decode cX0_worthOf 51 = .ok (.fconst 1, 1) := by decide +kernel
theorem dX0_worthOf_52 : decode cX0_worthOf 52 = .ok (.fload_n 3, 1) := by decide +kernel
theorem dX0_worthOf_53 : decode cX0_worthOf 53 = .ok (.fsub, 1) := by decide +kernel
theorem dX0_worthOf_54 : decode cX0_worthOf 54 = .ok (.fmul, 1) := by decide +kernel
theorem dX0_worthOf_55 : decode cX0_worthOf 55 = .ok (.fstore 4, 2) := by decide +kernel
theorem dX0_worthOf_57 : decode cX0_worthOf 57 = .ok (.fload 4, 2) := by decide +kernel
theorem dX0_worthOf_59 : decode cX0_worthOf 59 = .ok (.iload_n 2, 1) := by decide +kernel
theorem dX0_worthOf_60 : decode cX0_worthOf 60 = .ok (.i2f, 1) := by decide +kernel
theorem dX0_worthOf_61 : decode cX0_worthOf 61 = .ok (.fload_n 3, 1) := by decide +kernel
theorem dX0_worthOf_62 : decode cX0_worthOf 62 = .ok (.fmul, 1) := by decide +kernel
theorem dX0_worthOf_63 : decode cX0_worthOf 63 = .ok (.fsub, 1) := by decide +kernel
theorem dX0_worthOf_64 : decode cX0_worthOf 64 = .ok (.freturn, 1) := by decide +kernel
theorem dX0_canPayAhead_0 : decode cX0_canPayAhead 0 = .ok (.aload_n 0, 1) := by decide +kernel
theorem dX0_canPayAhead_1 : decode cX0_canPayAhead 1 = .ok (.getfield 28, 3) := by decide +kernel
theorem dX0_canPayAhead_4 : decode cX0_canPayAhead 4 = .ok (.iload_n 1, 1) := by decide +kernel
theorem dX0_canPayAhead_5 : decode cX0_canPayAhead 5 = .ok (.invokevirtual 49, 3) := by decide +kernel
theorem dX0_canPayAhead_8 : decode cX0_canPayAhead 8 = .ok (.ifCond .ne 5, 3) := by decide +kernel
theorem dX0_canPayAhead_11 : decode cX0_canPayAhead 11 = .ok (.iconst 0, 1) := by decide +kernel
theorem dX0_canPayAhead_12 : decode cX0_canPayAhead 12 = .ok (.ireturn, 1) := by decide +kernel
theorem dX0_canPayAhead_13 : decode cX0_canPayAhead 13 = .ok (.aload_n 0, 1) := by decide +kernel
theorem dX0_canPayAhead_14 : decode cX0_canPayAhead 14 = .ok (.getfield 28, 3) := by decide +kernel
theorem dX0_canPayAhead_17 : decode cX0_canPayAhead 17 = .ok (.getfield 89, 3) := by decide +kernel
theorem dX0_canPayAhead_20 : decode cX0_canPayAhead 20 = .ok (.iload_n 1, 1) := by decide +kernel
theorem dX0_canPayAhead_21 : decode cX0_canPayAhead 21 = .ok (.iaload, 1) := by decide +kernel
theorem dX0_canPayAhead_22 : decode cX0_canPayAhead 22 = .ok (.ifCond .ne 15, 3) := by decide +kernel
theorem dX0_canPayAhead_25 : decode cX0_canPayAhead 25 = .ok (.aload_n 0, 1) := by decide +kernel
theorem dX0_canPayAhead_26 : decode cX0_canPayAhead 26 = .ok (.getfield 28, 3) := by decide +kernel
theorem dX0_canPayAhead_29 : decode cX0_canPayAhead 29 = .ok (.getfield 92, 3) := by decide +kernel
theorem dX0_canPayAhead_32 : decode cX0_canPayAhead 32 = .ok (.iload_n 1, 1) := by decide +kernel
theorem dX0_canPayAhead_33 : decode cX0_canPayAhead 33 = .ok (.iaload, 1) := by decide +kernel
theorem dX0_canPayAhead_34 : decode cX0_canPayAhead 34 = .ok (.ifCond .eq 5, 3) := by decide +kernel
theorem dX0_canPayAhead_37 : decode cX0_canPayAhead 37 = .ok (.iconst 0, 1) := by decide +kernel
theorem dX0_canPayAhead_38 : decode cX0_canPayAhead 38 = .ok (.ireturn, 1) := by decide +kernel
theorem dX0_canPayAhead_39 : decode cX0_canPayAhead 39 = .ok (.aload_n 0, 1) := by decide +kernel
theorem dX0_canPayAhead_40 : decode cX0_canPayAhead 40 = .ok (.iload_n 1, 1) := by decide +kernel
theorem dX0_canPayAhead_41 : decode cX0_canPayAhead 41 = .ok (.invokevirtual 60, 3) := by decide +kernel
theorem dX0_canPayAhead_44 : decode cX0_canPayAhead 44 = .ok (.aload_n 0, 1) := by decide +kernel
theorem dX0_canPayAhead_45 : decode cX0_canPayAhead 45 = .ok (.getfield 36, 3) := by decide +kernel
theorem dX0_canPayAhead_48 : decode cX0_canPayAhead 48 = .ok (.iconst 0, 1) := by decide +kernel
theorem dX0_canPayAhead_49 : decode cX0_canPayAhead 49 = .ok (.iaload, 1) := by decide +kernel
theorem dX0_canPayAhead_50 : decode cX0_canPayAhead 50 = .ok (.if_icmp .ge 5, 3) := by decide +kernel
theorem dX0_canPayAhead_53 : decode cX0_canPayAhead 53 = .ok (.iconst 0, 1) := by decide +kernel
theorem dX0_canPayAhead_54 : decode cX0_canPayAhead 54 = .ok (.ireturn, 1) := by decide +kernel
theorem dX0_canPayAhead_55 : decode cX0_canPayAhead 55 = .ok (.aload_n 0, 1) := by decide +kernel
theorem dX0_canPayAhead_56 : decode cX0_canPayAhead 56 = .ok (.iload_n 1, 1) := by decide +kernel
theorem dX0_canPayAhead_57 : decode cX0_canPayAhead 57 = .ok (.iconst 0, 1) := by decide +kernel
theorem dX0_canPayAhead_58 : decode cX0_canPayAhead 58 = .ok (.invokevirtual 86, 3) := by decide +kernel
theorem dX0_canPayAhead_61 : decode cX0_canPayAhead 61 = .ok (.istore_n 2, 1) := by decide +kernel
theorem dX0_canPayAhead_62 : decode cX0_canPayAhead 62 = .ok (.iload_n 2, 1) := by decide +kernel
theorem dX0_canPayAhead_63 : decode cX0_canPayAhead 63 = .ok (.ifCond .le 20, 3) := by decide +kernel
theorem dX0_canPayAhead_66 : decode cX0_canPayAhead 66 = .ok (.aload_n 0, 1) := by decide +kernel
theorem dX0_canPayAhead_67 : decode cX0_canPayAhead 67 = .ok (.getfield 95, 3) := by decide +kernel
theorem dX0_canPayAhead_70 : decode cX0_canPayAhead 70 = .ok (.iload_n 2, 1) := by decide +kernel
theorem dX0_canPayAhead_71 : decode cX0_canPayAhead 71 = .ok (.isub, 1) := by decide +kernel
theorem dX0_canPayAhead_72 : decode cX0_canPayAhead 72 = .ok (.aload_n 0, 1) := by decide +kernel
theorem dX0_canPayAhead_73 : decode cX0_canPayAhead 73 = .ok (.invokevirtual 98, 3) := by decide +kernel
theorem dX0_canPayAhead_76 : decode cX0_canPayAhead 76 = .ok (.if_icmp .lt 7, 3) := by decide +kernel
theorem dX0_canPayAhead_79 : decode cX0_canPayAhead 79 = .ok (.iconst 1, 1) := by decide +kernel
theorem dX0_canPayAhead_80 : decode cX0_canPayAhead 80 = .ok (.goto 4, 3) := by decide +kernel
theorem dX0_canPayAhead_83 : decode cX0_canPayAhead 83 = .ok (.iconst 0, 1) := by decide +kernel
theorem dX0_canPayAhead_84 : decode cX0_canPayAhead 84 = .ok (.ireturn, 1) := by decide +kernel
theorem dX0_canGiveUp_0 : decode cX0_canGiveUp 0 = .ok (.aload_n 0, 1) := by decide +kernel
theorem dX0_canGiveUp_1 : decode cX0_canGiveUp 1 = .ok (.getfield 28, 3) := by decide +kernel
theorem dX0_canGiveUp_4 : decode cX0_canGiveUp 4 = .ok (.iload_n 1, 1) := by decide +kernel
theorem dX0_canGiveUp_5 : decode cX0_canGiveUp 5 = .ok (.invokevirtual 101, 3) := by decide +kernel
theorem dX0_canGiveUp_8 : decode cX0_canGiveUp 8 = .ok (.ifCond .eq 21, 3) := by decide +kernel
theorem dX0_canGiveUp_11 : decode cX0_canGiveUp 11 = .ok (.aload_n 0, 1) := by decide +kernel
theorem dX0_canGiveUp_12 : decode cX0_canGiveUp 12 = .ok (.iload_n 1, 1) := by decide +kernel
theorem dX0_canGiveUp_13 : decode cX0_canGiveUp 13 = .ok (.invokevirtual 60, 3) := by decide +kernel
theorem dX0_canGiveUp_16 : decode cX0_canGiveUp 16 = .ok (.aload_n 0, 1) := by decide +kernel
theorem dX0_canGiveUp_17 : decode cX0_canGiveUp 17 = .ok (.getfield 36, 3) := by decide +kernel
theorem dX0_canGiveUp_20 : decode cX0_canGiveUp 20 = .ok (.iconst 2, 1) := by decide +kernel
theorem dX0_canGiveUp_21 : decode cX0_canGiveUp 21 = .ok (.iaload, 1) := by decide +kernel
theorem dX0_canGiveUp_22 : decode cX0_canGiveUp 22 = .ok (.if_icmp .lt 7, 3) := by decide +kernel
theorem dX0_canGiveUp_25 : decode cX0_canGiveUp 25 = .ok (.iconst 1, 1) := by decide +kernel
theorem dX0_canGiveUp_26 : decode cX0_canGiveUp 26 = .ok (.goto 4, 3) := by decide +kernel
theorem dX0_canGiveUp_29 : decode cX0_canGiveUp 29 = .ok (.iconst 0, 1) := by decide +kernel
theorem dX0_canGiveUp_30 : decode cX0_canGiveUp 30 = .ok (.ireturn, 1) := by decide +kernel
theorem dX0_advance_0 : decode cX0_advance 0 = .ok (.aload_n 0, 1) := by decide +kernel
theorem dX0_advance_1 : decode cX0_advance 1 = .ok (.getfield 28, 3) := by decide +kernel
theorem dX0_advance_4 : decode cX0_advance 4 = .ok (.iload_n 1, 1) := by decide +kernel
theorem dX0_advance_5 : decode cX0_advance 5 = .ok (.invokevirtual 49, 3) := by decide +kernel
theorem dX0_advance_8 : decode cX0_advance 8 = .ok (.ifCond .ne 5, 3) := by decide +kernel
theorem dX0_advance_11 : decode cX0_advance 11 = .ok (.iconst (-1), 1) := by decide +kernel
theorem dX0_advance_12 : decode cX0_advance 12 = .ok (.ireturn, 1) := by decide +kernel
theorem dX0_advance_13 : decode cX0_advance 13 = .ok (.aload_n 0, 1) := by decide +kernel
theorem dX0_advance_14 : decode cX0_advance 14 = .ok (.iload_n 1, 1) := by decide +kernel
theorem dX0_advance_15 : decode cX0_advance 15 = .ok (.iconst 0, 1) := by decide +kernel
theorem dX0_advance_16 : decode cX0_advance 16 = .ok (.invokevirtual 86, 3) := by decide +kernel
theorem dX0_advance_19 : decode cX0_advance 19 = .ok (.istore_n 2, 1) := by decide +kernel
theorem dX0_advance_20 : decode cX0_advance 20 = .ok (.aload_n 0, 1) := by decide +kernel
theorem dX0_advance_21 : decode cX0_advance 21 = .ok (.getfield 28, 3) := by decide +kernel
theorem dX0_advance_24 : decode cX0_advance 24 = .ok (.getfield 89, 3) := by decide +kernel
theorem dX0_advance_27 : decode cX0_advance 27 = .ok (.iload_n 1, 1) := by decide +kernel
theorem dX0_advance_28 : decode cX0_advance 28 = .ok (.iconst 1, 1) := by decide +kernel
theorem dX0_advance_29 : decode cX0_advance 29 = .ok (.iastore, 1) := by decide +kernel
theorem dX0_advance_30 : decode cX0_advance 30 = .ok (.aload_n 0, 1) := by decide +kernel
theorem dX0_advance_31 : decode cX0_advance 31 = .ok (.getfield 28, 3) := by decide +kernel
theorem dX0_advance_34 : decode cX0_advance 34 = .ok (.getfield 104, 3) := by decide +kernel
theorem dX0_advance_37 : decode cX0_advance 37 = .ok (.iload_n 1, 1) := by decide +kernel
theorem dX0_advance_38 : decode cX0_advance 38 = .ok (.iload_n 2, 1) := by decide +kernel
theorem dX0_advance_39 : decode cX0_advance 39 = .ok (.iastore, 1) := by decide +kernel
theorem dX0_advance_40 : decode cX0_advance 40 = .ok (.aload_n 0, 1) := by decide +kernel
theorem dX0_advance_41 : decode cX0_advance 41 = .ok (.getfield 12, 3) := by decide +kernel
theorem dX0_advance_44 : decode cX0_advance 44 = .ok (.aload_n 0, 1) := by decide +kernel
theorem dX0_advance_45 : decode cX0_advance 45 = .ok (.getfield 28, 3) := by decide +kernel
theorem dX0_advance_48 : decode cX0_advance 48 = .ok (.getfield 107, 3) := by decide +kernel
theorem dX0_advance_51 : decode cX0_advance 51 = .ok (.iload_n 1, 1) := by decide +kernel
theorem dX0_advance_52 : decode cX0_advance 52 = .ok (.iaload, 1) := by decide +kernel
theorem dX0_advance_53 : decode cX0_advance 53 = .ok (.iload_n 2, 1) := by decide +kernel
theorem dX0_advance_54 : decode cX0_advance 54 = .ok (.invokevirtual 110, 3) := by decide +kernel
theorem dX0_advance_57 : decode cX0_advance 57 = .ok (.aload_n 0, 1) := by decide +kernel
theorem dX0_advance_58 : decode cX0_advance 58 = .ok (.dup, 1) := by decide +kernel
theorem dX0_advance_59 : decode cX0_advance 59 = .ok (.getfield 95, 3) := by decide +kernel
theorem dX0_advance_62 : decode cX0_advance 62 = .ok (.iload_n 2, 1) := by decide +kernel
theorem dX0_advance_63 : decode cX0_advance 63 = .ok (.isub, 1) := by decide +kernel
theorem dX0_advance_64 : decode cX0_advance 64 = .ok (.putfield 95, 3) := by decide +kernel
theorem dX0_advance_67 : decode cX0_advance 67 = .ok (.aload_n 0, 1) := by decide +kernel
theorem dX0_advance_68 : decode cX0_advance 68 = .ok (.dup, 1) := by decide +kernel
theorem dX0_advance_69 : decode cX0_advance 69 = .ok (.getfield 114, 3) := by decide +kernel
theorem dX0_advance_72 : decode cX0_advance 72 = .ok (.iload_n 2, 1) := by decide +kernel
theorem dX0_advance_73 : decode cX0_advance 73 = .ok (.iadd, 1) := by decide +kernel
theorem dX0_advance_74 : decode cX0_advance 74 = .ok (.putfield 114, 3) := by decide +kernel
theorem dX0_advance_77 : decode cX0_advance 77 = .ok (.iload_n 2, 1) := by decide +kernel
theorem dX0_advance_78 : decode cX0_advance 78 = .ok (.ireturn, 1) := by decide +kernel
theorem dX0_errorOfPayment_0 : decode cX0_errorOfPayment 0 = .ok (.aload_n 0, 1) := by decide +kernel
theorem dX0_errorOfPayment_1 : decode cX0_errorOfPayment 1 = .ok (.getfield 28, 3) := by decide +kernel
theorem dX0_errorOfPayment_4 : decode cX0_errorOfPayment 4 = .ok (.iload_n 1, 1) := by decide +kernel
theorem dX0_errorOfPayment_5 : decode cX0_errorOfPayment 5 = .ok (.invokevirtual 49, 3) := by decide +kernel
theorem dX0_errorOfPayment_8 : decode cX0_errorOfPayment 8 = .ok (.ifCond .ne 5, 3) := by decide +kernel
theorem dX0_errorOfPayment_11 : decode cX0_errorOfPayment 11 = .ok (.iconst (-1), 1) := by decide +kernel
theorem dX0_errorOfPayment_12 : decode cX0_errorOfPayment 12 = .ok (.ireturn, 1) := by decide +kernel
theorem dX0_errorOfPayment_13 : decode cX0_errorOfPayment 13 = .ok (.aload_n 0, 1) := by decide +kernel
theorem dX0_errorOfPayment_14 : decode cX0_errorOfPayment 14 = .ok (.getfield 28, 3) := by decide +kernel
theorem dX0_errorOfPayment_17 : decode cX0_errorOfPayment 17 = .ok (.iload_n 1, 1) := by decide +kernel
theorem dX0_errorOfPayment_18 : decode cX0_errorOfPayment 18 = .ok (.invokevirtual 101, 3) := by decide +kernel
theorem dX0_errorOfPayment_21 : decode cX0_errorOfPayment 21 = .ok (.ifCond .ne 6, 3) := by decide +kernel
theorem dX0_errorOfPayment_24 : decode cX0_errorOfPayment 24 = .ok (.bipush (-4), 2) := by decide +kernel
theorem dX0_errorOfPayment_26 : decode cX0_errorOfPayment 26 = .ok (.ireturn, 1) := by decide +kernel
theorem dX0_errorOfPayment_27 : decode cX0_errorOfPayment 27 = .ok (.aload_n 0, 1) := by decide +kernel
theorem dX0_errorOfPayment_28 : decode cX0_errorOfPayment 28 = .ok (.getfield 28, 3) := by decide +kernel
theorem dX0_errorOfPayment_31 : decode cX0_errorOfPayment 31 = .ok (.getfield 79, 3) := by decide +kernel
theorem dX0_errorOfPayment_34 : decode cX0_errorOfPayment 34 = .ok (.iload_n 1, 1) := by decide +kernel
theorem dX0_errorOfPayment_35 : decode cX0_errorOfPayment 35 = .ok (.iaload, 1) := by decide +kernel
theorem dX0_errorOfPayment_36 : decode cX0_errorOfPayment 36 = .ok (.aload_n 0, 1) := by decide +kernel
theorem dX0_errorOfPayment_37 : decode cX0_errorOfPayment 37 = .ok (.getfield 28, 3) := by decide +kernel
theorem dX0_errorOfPayment_40 : decode cX0_errorOfPayment 40 = .ok (.getfield 92, 3) := by decide +kernel
theorem dX0_errorOfPayment_43 : decode cX0_errorOfPayment 43 = .ok (.iload_n 1, 1) := by decide +kernel
theorem dX0_errorOfPayment_44 : decode cX0_errorOfPayment 44 = .ok (.iaload, 1) := by decide +kernel
theorem dX0_errorOfPayment_45 : decode cX0_errorOfPayment 45 = .ok (.isub, 1) := by decide +kernel
theorem dX0_errorOfPayment_46 : decode cX0_errorOfPayment 46 = .ok (.istore_n 3, 1) := by decide +kernel
theorem dX0_errorOfPayment_47 : decode cX0_errorOfPayment 47 = .ok (.iload_n 2, 1) := by decide +kernel
theorem dX0_errorOfPayment_48 : decode cX0_errorOfPayment 48 = .ok (.iconst 1, 1) := by decide +kernel
theorem dX0_errorOfPayment_49 : decode cX0_errorOfPayment 49 = .ok (.if_icmp .lt 8, 3) := by decide +kernel
theorem dX0_errorOfPayment_52 : decode cX0_errorOfPayment 52 = .ok (.iload_n 2, 1) := by decide +kernel
theorem dX0_errorOfPayment_53 : decode cX0_errorOfPayment 53 = .ok (.iload_n 3, 1) := by decide +kernel
theorem dX0_errorOfPayment_54 : decode cX0_errorOfPayment 54 = .ok (.if_icmp .le 8, 3) := by decide +kernel
theorem dX0_errorOfPayment_57 : decode cX0_errorOfPayment 57 = .ok (.bipush (-2), 2) := by decide +kernel
theorem dX0_errorOfPayment_59 : decode cX0_errorOfPayment 59 = .ok (.goto 4, 3) := by decide +kernel
theorem dX0_errorOfPayment_62 : decode cX0_errorOfPayment 62 = .ok (.iconst 0, 1) := by decide +kernel
theorem dX0_errorOfPayment_63 : decode cX0_errorOfPayment 63 = .ok (.ireturn, 1) := by decide +kernel
theorem dX0_collect_0 : decode cX0_collect 0 = .ok (.aload_n 0, 1) := by decide +kernel
theorem dX0_collect_1 : decode cX0_collect 1 = .ok (.getfield 28, 3) := by decide +kernel
theorem dX0_collect_4 : decode cX0_collect 4 = .ok (.iload_n 1, 1) := by decide +kernel
theorem dX0_collect_5 : decode cX0_collect 5 = .ok (.invokevirtual 49, 3) := by decide +kernel
theorem dX0_collect_8 : decode cX0_collect 8 = .ok (.ifCond .ne 5, 3) := by decide +kernel
theorem dX0_collect_11 : decode cX0_collect 11 = .ok (.iconst (-1), 1) := by decide +kernel
theorem dX0_collect_12 : decode cX0_collect 12 = .ok (.ireturn, 1) := by decide +kernel
theorem dX0_collect_13 : decode cX0_collect 13 = .ok (.aload_n 0, 1) := by decide +kernel
theorem dX0_collect_14 : decode cX0_collect 14 = .ok (.getfield 28, 3) := by decide +kernel
theorem dX0_collect_17 : decode cX0_collect 17 = .ok (.getfield 92, 3) := by decide +kernel
theorem dX0_collect_20 : decode cX0_collect 20 = .ok (.iload_n 1, 1) := by decide +kernel
theorem dX0_collect_21 : decode cX0_collect 21 = .ok (.dup2, 1) := by decide +kernel
theorem dX0_collect_22 : decode cX0_collect 22 = .ok (.iaload, 1) := by decide +kernel
theorem dX0_collect_23 : decode cX0_collect 23 = .ok (.iload_n 2, 1) := by decide +kernel
theorem dX0_collect_24 : decode cX0_collect 24 = .ok (.iadd, 1) := by decide +kernel
theorem dX0_collect_25 : decode cX0_collect 25 = .ok (.iastore, 1) := by decide +kernel
theorem dX0_collect_26 : decode cX0_collect 26 = .ok (.aload_n 0, 1) := by decide +kernel
theorem dX0_collect_27 : decode cX0_collect 27 = .ok (.dup, 1) := by decide +kernel
theorem dX0_collect_28 : decode cX0_collect 28 = .ok (.getfield 117, 3) := by decide +kernel
theorem dX0_collect_31 : decode cX0_collect 31 = .ok (.iload_n 2, 1) := by decide +kernel
theorem dX0_collect_32 : decode cX0_collect 32 = .ok (.iadd, 1) := by decide +kernel
theorem dX0_collect_33 : decode cX0_collect 33 = .ok (.putfield 117, 3) := by decide +kernel
theorem dX0_collect_36 : decode cX0_collect 36 = .ok (.aload_n 0, 1) := by decide +kernel
theorem dX0_collect_37 : decode cX0_collect 37 = .ok (.getfield 28, 3) := by decide +kernel
theorem dX0_collect_40 : decode cX0_collect 40 = .ok (.getfield 89, 3) := by decide +kernel
theorem dX0_collect_43 : decode cX0_collect 43 = .ok (.iload_n 1, 1) := by decide +kernel
theorem dX0_collect_44 : decode cX0_collect 44 = .ok (.iaload, 1) := by decide +kernel
theorem dX0_collect_45 : decode cX0_collect 45 = .ok (.iconst 1, 1) := by decide +kernel
theorem dX0_collect_46 : decode cX0_collect 46 = .ok (.if_icmp .ne 16, 3) := by decide +kernel
theorem dX0_collect_49 : decode cX0_collect 49 = .ok (.aload_n 0, 1) := by decide +kernel
theorem dX0_collect_50 : decode cX0_collect 50 = .ok (.dup, 1) := by decide +kernel
theorem dX0_collect_51 : decode cX0_collect 51 = .ok (.getfield 95, 3) := by decide +kernel
theorem dX0_collect_54 : decode cX0_collect 54 = .ok (.iload_n 2, 1) := by decide +kernel
theorem dX0_collect_55 : decode cX0_collect 55 = .ok (.iadd, 1) := by decide +kernel
theorem dX0_collect_56 : decode cX0_collect 56 = .ok (.putfield 95, 3) := by decide +kernel
theorem dX0_collect_59 : decode cX0_collect 59 = .ok (.goto 20, 3) := by decide +kernel
theorem dX0_collect_62 : decode cX0_collect 62 = .ok (.aload_n 0, 1) := by decide +kernel
theorem dX0_collect_63 : decode cX0_collect 63 = .ok (.getfield 12, 3) := by decide +kernel
theorem dX0_collect_66 : decode cX0_collect 66 = .ok (.aload_n 0, 1) := by decide +kernel
theorem dX0_collect_67 : decode cX0_collect 67 = .ok (.getfield 28, 3) := by decide +kernel
theorem dX0_collect_70 : decode cX0_collect 70 = .ok (.getfield 107, 3) := by decide +kernel
theorem dX0_collect_73 : decode cX0_collect 73 = .ok (.iload_n 1, 1) := by decide +kernel
theorem dX0_collect_74 : decode cX0_collect 74 = .ok (.iaload, 1) := by decide +kernel
theorem dX0_collect_75 : decode cX0_collect 75 = .ok (.iload_n 2, 1) := by decide +kernel
theorem dX0_collect_76 : decode cX0_collect 76 = .ok (.invokevirtual 110, 3) := by decide +kernel
theorem dX0_collect_79 : decode cX0_collect 79 = .ok (.aload_n 0, 1) := by decide +kernel
theorem dX0_collect_80 : decode cX0_collect 80 = .ok (.getfield 28, 3) := by decide +kernel
theorem dX0_collect_83 : decode cX0_collect 83 = .ok (.getfield 79, 3) := by decide +kernel
theorem dX0_collect_86 : decode cX0_collect 86 = .ok (.iload_n 1, 1) := by decide +kernel
theorem dX0_collect_87 : decode cX0_collect 87 = .ok (.iaload, 1) := by decide +kernel
theorem dX0_collect_88 : decode cX0_collect 88 = .ok (.aload_n 0, 1) := by decide +kernel
theorem dX0_collect_89 : decode cX0_collect 89 = .ok (.getfield 28, 3) := by decide +kernel
theorem dX0_collect_92 : decode cX0_collect 92 = .ok (.getfield 92, 3) := by decide +kernel
theorem dX0_collect_95 : decode cX0_collect 95 = .ok (.iload_n 1, 1) := by decide +kernel
theorem dX0_collect_96 : decode cX0_collect 96 = .ok (.iaload, 1) := by decide +kernel
theorem dX0_collect_97 : decode cX0_collect 97 = .ok (.isub, 1) := by decide +kernel
theorem dX0_collect_98 : decode cX0_collect 98 = .ok (.istore_n 3, 1) := by decide +kernel
theorem dX0_collect_99 : decode cX0_collect 99 = .ok (.iload_n 3, 1) := by decide +kernel
theorem dX0_collect_100 : decode cX0_collect 100 = .ok (.ifCond .ne 8, 3) := by decide +kernel
theorem dX0_collect_103 : decode cX0_collect 103 = .ok (.aload_n 0, 1) := by decide +kernel
theorem dX0_collect_104 : decode cX0_collect 104 = .ok (.iload_n 1, 1) := by decide +kernel
theorem dX0_collect_105 : decode cX0_collect 105 = .ok (.invokevirtual 120, 3) := by decide +kernel
theorem dX0_collect_108 : decode cX0_collect 108 = .ok (.iload_n 3, 1) := by decide +kernel
theorem dX0_collect_109 : decode cX0_collect 109 = .ok (.ireturn, 1) := by decide +kernel
theorem dX0_settle_0 : decode cX0_settle 0 = .ok (.aload_n 0, 1) := by decide +kernel
theorem dX0_settle_1 : decode cX0_settle 1 = .ok (.getfield 28, 3) := by decide +kernel
theorem dX0_settle_4 : decode cX0_settle 4 = .ok (.iload_n 1, 1) := by decide +kernel
theorem dX0_settle_5 : decode cX0_settle 5 = .ok (.invokevirtual 49, 3) := by decide +kernel
theorem dX0_settle_8 : decode cX0_settle 8 = .ok (.ifCond .ne 4, 3) := by decide +kernel
theorem dX0_settle_11 : decode cX0_settle 11 = .ok (.return_, 1) := by decide +kernel
theorem dX0_settle_12 : decode cX0_settle 12 = .ok (.aload_n 0, 1) := by decide +kernel
theorem dX0_settle_13 : decode cX0_settle 13 = .ok (.getfield 28, 3) := by decide +kernel
theorem dX0_settle_16 : decode cX0_settle 16 = .ok (.getfield 89, 3) := by decide +kernel
theorem dX0_settle_19 : decode cX0_settle 19 = .ok (.iload_n 1, 1) := by decide +kernel
theorem dX0_settle_20 : decode cX0_settle 20 = .ok (.iaload, 1) := by decide +kernel
theorem dX0_settle_21 : decode cX0_settle 21 = .ok (.iconst 1, 1) := by decide +kernel
theorem dX0_settle_22 : decode cX0_settle 22 = .ok (.if_icmp .ne 8, 3) := by decide +kernel
theorem dX0_settle_25 : decode cX0_settle 25 = .ok (.aload_n 0, 1) := by decide +kernel
theorem dX0_settle_26 : decode cX0_settle 26 = .ok (.iload_n 1, 1) := by decide +kernel
theorem dX0_settle_27 : decode cX0_settle 27 = .ok (.invokevirtual 124, 3) := by decide +kernel
theorem dX0_settle_30 : decode cX0_settle 30 = .ok (.aload_n 0, 1) := by decide +kernel
theorem dX0_settle_31 : decode cX0_settle 31 = .ok (.getfield 28, 3) := by decide +kernel
theorem dX0_settle_34 : decode cX0_settle 34 = .ok (.getfield 89, 3) := by decide +kernel
theorem dX0_settle_37 : decode cX0_settle 37 = .ok (.iload_n 1, 1) := by decide +kernel
theorem dX0_settle_38 : decode cX0_settle 38 = .ok (.iconst 2, 1) := by decide +kernel
theorem dX0_settle_39 : decode cX0_settle 39 = .ok (.iastore, 1) := by decide +kernel
theorem dX0_settle_40 : decode cX0_settle 40 = .ok (.aload_n 0, 1) := by decide +kernel
theorem dX0_settle_41 : decode cX0_settle 41 = .ok (.getfield 21, 3) := by decide +kernel
theorem dX0_settle_44 : decode cX0_settle 44 = .ok (.aload_n 0, 1) := by decide +kernel
theorem dX0_settle_45 : decode cX0_settle 45 = .ok (.getfield 28, 3) := by decide +kernel
theorem dX0_settle_48 : decode cX0_settle 48 = .ok (.getfield 72, 3) := by decide +kernel
theorem dX0_settle_51 : decode cX0_settle 51 = .ok (.iload_n 1, 1) := by decide +kernel
theorem dX0_settle_52 : decode cX0_settle 52 = .ok (.iaload, 1) := by decide +kernel
theorem dX0_settle_53 : decode cX0_settle 53 = .ok (.aload_n 0, 1) := by decide +kernel
theorem dX0_settle_54 : decode cX0_settle 54 = .ok (.iload_n 1, 1) := by decide +kernel
theorem dX0_settle_55 : decode cX0_settle 55 = .ok (.iconst 0, 1) := by decide +kernel
theorem dX0_settle_56 : decode cX0_settle 56 = .ok (.invokevirtual 68, 3) := by decide +kernel
theorem dX0_settle_59 : decode cX0_settle 59 = .ok (.invokevirtual 127, 3) := by decide +kernel
theorem dX0_settle_62 : decode cX0_settle 62 = .ok (.return_, 1) := by decide +kernel
theorem dX0_passOn_0 : decode cX0_passOn 0 = .ok (.aload_n 0, 1) := by decide +kernel
theorem dX0_passOn_1 : decode cX0_passOn 1 = .ok (.getfield 28, 3) := by decide +kernel
theorem dX0_passOn_4 : decode cX0_passOn 4 = .ok (.iload_n 1, 1) := by decide +kernel
theorem dX0_passOn_5 : decode cX0_passOn 5 = .ok (.invokevirtual 49, 3) := by decide +kernel
theorem dX0_passOn_8 : decode cX0_passOn 8 = .ok (.ifCond .ne 4, 3) := by decide +kernel
theorem dX0_passOn_11 : decode cX0_passOn 11 = .ok (.return_, 1) := by decide +kernel
theorem dX0_passOn_12 : decode cX0_passOn 12 = .ok (.aload_n 0, 1) := by decide +kernel
theorem dX0_passOn_13 : decode cX0_passOn 13 = .ok (.getfield 28, 3) := by decide +kernel
theorem dX0_passOn_16 : decode cX0_passOn 16 = .ok (.getfield 79, 3) := by decide +kernel
theorem dX0_passOn_19 : decode cX0_passOn 19 = .ok (.iload_n 1, 1) := by decide +kernel
theorem dX0_passOn_20 : decode cX0_passOn 20 = .ok (.iaload, 1) := by decide +kernel
theorem dX0_passOn_21 : decode cX0_passOn 21 = .ok (.i2f, 1) := by decide +kernel
theorem dX0_passOn_22 : decode cX0_passOn 22 = .ok (.aload_n 0, 1) := by decide +kernel
theorem dX0_passOn_23 : decode cX0_passOn 23 = .ok (.getfield 32, 3) := by decide +kernel
theorem dX0_passOn_26 : decode cX0_passOn 26 = .ok (.iconst 2, 1) := by decide +kernel
theorem dX0_passOn_27 : decode cX0_passOn 27 = .ok (.faload, 1) := by decide +kernel
theorem dX0_passOn_28 : decode cX0_passOn 28 = .ok (.fmul, 1) := by decide +kernel
theorem dX0_passOn_29 : decode cX0_passOn 29 = .ok (.f2i, 1) := by decide +kernel
theorem dX0_passOn_30 : decode cX0_passOn 30 = .ok (.istore_n 2, 1) := by decide +kernel
theorem dX0_passOn_31 : decode cX0_passOn 31 = .ok (.aload_n 0, 1) := by decide +kernel
theorem dX0_passOn_32 : decode cX0_passOn 32 = .ok (.getfield 28, 3) := by decide +kernel
theorem dX0_passOn_35 : decode cX0_passOn 35 = .ok (.getfield 79, 3) := by decide +kernel
theorem dX0_passOn_38 : decode cX0_passOn 38 = .ok (.iload_n 1, 1) := by decide +kernel
theorem dX0_passOn_39 : decode cX0_passOn 39 = .ok (.iaload, 1) := by decide +kernel
theorem dX0_passOn_40 : decode cX0_passOn 40 = .ok (.aload_n 0, 1) := by decide +kernel
theorem dX0_passOn_41 : decode cX0_passOn 41 = .ok (.getfield 28, 3) := by decide +kernel
theorem dX0_passOn_44 : decode cX0_passOn 44 = .ok (.getfield 104, 3) := by decide +kernel
theorem dX0_passOn_47 : decode cX0_passOn 47 = .ok (.iload_n 1, 1) := by decide +kernel
theorem dX0_passOn_48 : decode cX0_passOn 48 = .ok (.iaload, 1) := by decide +kernel
theorem dX0_passOn_49 : decode cX0_passOn 49 = .ok (.isub, 1) := by decide +kernel
theorem dX0_passOn_50 : decode cX0_passOn 50 = .ok (.iload_n 2, 1) := by decide +kernel
theorem dX0_passOn_51 : decode cX0_passOn 51 = .ok (.isub, 1) := by decide +kernel
theorem dX0_passOn_52 : decode cX0_passOn 52 = .ok (.istore_n 3, 1) := by decide +kernel
theorem dX0_passOn_53 : decode cX0_passOn 53 = .ok (.iload_n 3, 1) := by decide +kernel
theorem dX0_passOn_54 : decode cX0_passOn 54 = .ok (.ifCond .gt 4, 3) := by decide +kernel
theorem dX0_passOn_57 : decode cX0_passOn 57 = .ok (.return_, 1) := by decide +kernel
theorem dX0_passOn_58 : decode cX0_passOn 58 = .ok (.aload_n 0, 1) := by decide +kernel
theorem dX0_passOn_59 : decode cX0_passOn 59 = .ok (.dup, 1) := by decide +kernel
theorem dX0_passOn_60 : decode cX0_passOn 60 = .ok (.getfield 95, 3) := by decide +kernel
theorem dX0_passOn_63 : decode cX0_passOn 63 = .ok (.iload_n 3, 1) := by decide +kernel
theorem dX0_passOn_64 : decode cX0_passOn 64 = .ok (.isub, 1) := by decide +kernel
theorem dX0_passOn_65 : decode cX0_passOn 65 = .ok (.putfield 95, 3) := by decide +kernel
theorem dX0_passOn_68 : decode cX0_passOn 68 = .ok (.aload_n 0, 1) := by decide +kernel
theorem dX0_passOn_69 : decode cX0_passOn 69 = .ok (.dup, 1) := by decide +kernel
theorem dX0_passOn_70 : decode cX0_passOn 70 = .ok (.getfield 130, 3) := by decide +kernel
theorem dX0_passOn_73 : decode cX0_passOn 73 = .ok (.iload_n 3, 1) := by decide +kernel
theorem dX0_passOn_74 : decode cX0_passOn 74 = .ok (.iadd, 1) := by decide +kernel
theorem dX0_passOn_75 : decode cX0_passOn 75 = .ok (.putfield 130, 3) := by decide +kernel
theorem dX0_passOn_78 : decode cX0_passOn 78 = .ok (.aload_n 0, 1) := by decide +kernel
theorem dX0_passOn_79 : decode cX0_passOn 79 = .ok (.getfield 12, 3) := by decide +kernel
theorem dX0_passOn_82 : decode cX0_passOn 82 = .ok (.aload_n 0, 1) := by decide +kernel
theorem dX0_passOn_83 : decode cX0_passOn 83 = .ok (.getfield 28, 3) := by decide +kernel
theorem dX0_passOn_86 : decode cX0_passOn 86 = .ok (.getfield 107, 3) := by decide +kernel
theorem dX0_passOn_89 : decode cX0_passOn 89 = .ok (.iload_n 1, 1) := by decide +kernel
theorem dX0_passOn_90 : decode cX0_passOn 90 = .ok (.iaload, 1) := by decide +kernel
theorem dX0_passOn_91 : decode cX0_passOn 91 = .ok (.iload_n 3, 1) := by decide +kernel
theorem dX0_passOn_92 : decode cX0_passOn 92 = .ok (.invokevirtual 110, 3) := by decide +kernel
theorem dX0_passOn_95 : decode cX0_passOn 95 = .ok (.return_, 1) := by decide +kernel
theorem dX0_lose_0 : decode cX0_lose 0 = .ok (.aload_n 0, 1) := by decide +kernel
theorem dX0_lose_1 : decode cX0_lose 1 = .ok (.getfield 28, 3) := by decide +kernel
theorem dX0_lose_4 : decode cX0_lose 4 = .ok (.iload_n 1, 1) := by decide +kernel
theorem dX0_lose_5 : decode cX0_lose 5 = .ok (.invokevirtual 49, 3) := by decide +kernel
theorem dX0_lose_8 : decode cX0_lose 8 = .ok (.ifCond .ne 5, 3) := by decide +kernel
theorem dX0_lose_11 : decode cX0_lose 11 = .ok (.iconst (-1), 1) := by decide +kernel
theorem dX0_lose_12 : decode cX0_lose 12 = .ok (.ireturn, 1) := by decide +kernel
theorem dX0_lose_13 : decode cX0_lose 13 = .ok (.aload_n 0, 1) := by decide +kernel
theorem dX0_lose_14 : decode cX0_lose 14 = .ok (.getfield 28, 3) := by decide +kernel
theorem dX0_lose_17 : decode cX0_lose 17 = .ok (.getfield 89, 3) := by decide +kernel
theorem dX0_lose_20 : decode cX0_lose 20 = .ok (.iload_n 1, 1) := by decide +kernel
theorem dX0_lose_21 : decode cX0_lose 21 = .ok (.iaload, 1) := by decide +kernel
theorem dX0_lose_22 : decode cX0_lose 22 = .ok (.iconst 1, 1) := by decide +kernel
theorem dX0_lose_23 : decode cX0_lose 23 = .ok (.if_icmp .ne 7, 3) := by decide +kernel
theorem dX0_lose_26 : decode cX0_lose 26 = .ok (.iconst 1, 1) := by decide +kernel
theorem dX0_lose_27 : decode cX0_lose 27 = .ok (.goto 4, 3) := by decide +kernel
theorem dX0_lose_30 : decode cX0_lose 30 = .ok (.iconst 0, 1) := by decide +kernel
theorem dX0_lose_31 : decode cX0_lose 31 = .ok (.istore_n 2, 1) := by decide +kernel
theorem dX0_lose_32 : decode cX0_lose 32 = .ok (.aload_n 0, 1) := by decide +kernel
theorem dX0_lose_33 : decode cX0_lose 33 = .ok (.getfield 28, 3) := by decide +kernel
theorem dX0_lose_36 : decode cX0_lose 36 = .ok (.getfield 89, 3) := by decide +kernel
theorem dX0_lose_39 : decode cX0_lose 39 = .ok (.iload_n 1, 1) := by decide +kernel
theorem dX0_lose_40 : decode cX0_lose 40 = .ok (.iconst 3, 1) := by decide +kernel
theorem dX0_lose_41 : decode cX0_lose 41 = .ok (.iastore, 1) := by decide +kernel
theorem dX0_lose_42 : decode cX0_lose 42 = .ok (.aload_n 0, 1) := by decide +kernel
theorem dX0_lose_43 : decode cX0_lose 43 = .ok (.getfield 21, 3) := by decide +kernel
theorem dX0_lose_46 : decode cX0_lose 46 = .ok (.aload_n 0, 1) := by decide +kernel
theorem dX0_lose_47 : decode cX0_lose 47 = .ok (.getfield 28, 3) := by decide +kernel
theorem dX0_lose_50 : decode cX0_lose 50 = .ok (.getfield 72, 3) := by decide +kernel
theorem dX0_lose_53 : decode cX0_lose 53 = .ok (.iload_n 1, 1) := by decide +kernel
theorem dX0_lose_54 : decode cX0_lose 54 = .ok (.iaload, 1) := by decide +kernel
theorem dX0_lose_55 : decode cX0_lose 55 = .ok (.invokevirtual 133, 3) := by decide +kernel
theorem dX0_lose_58 : decode cX0_lose 58 = .ok (.aload_n 0, 1) := by decide +kernel
theorem dX0_lose_59 : decode cX0_lose 59 = .ok (.getfield 28, 3) := by decide +kernel
theorem dX0_lose_62 : decode cX0_lose 62 = .ok (.getfield 104, 3) := by decide +kernel
theorem dX0_lose_65 : decode cX0_lose 65 = .ok (.iload_n 1, 1) := by decide +kernel
theorem dX0_lose_66 : decode cX0_lose 66 = .ok (.iaload, 1) := by decide +kernel
theorem dX0_lose_67 : decode cX0_lose 67 = .ok (.aload_n 0, 1) := by decide +kernel
theorem dX0_lose_68 : decode cX0_lose 68 = .ok (.getfield 28, 3) := by decide +kernel
theorem dX0_lose_71 : decode cX0_lose 71 = .ok (.getfield 92, 3) := by decide +kernel
theorem dX0_lose_74 : decode cX0_lose 74 = .ok (.iload_n 1, 1) := by decide +kernel
theorem dX0_lose_75 : decode cX0_lose 75 = .ok (.iaload, 1) := by decide +kernel
theorem dX0_lose_76 : decode cX0_lose 76 = .ok (.isub, 1) := by decide +kernel
theorem dX0_lose_77 : decode cX0_lose 77 = .ok (.istore_n 3, 1) := by decide +kernel
theorem dX0_lose_78 : decode cX0_lose 78 = .ok (.iload_n 2, 1) := by decide +kernel
theorem dX0_lose_79 : decode cX0_lose 79 = .ok (.ifCond .eq 7, 3) := by decide +kernel
theorem dX0_lose_82 : decode cX0_lose 82 = .ok (.iload_n 3, 1) := by decide +kernel
theorem dX0_lose_83 : decode cX0_lose 83 = .ok (.ifCond .gt 5, 3) := by decide +kernel
theorem dX0_lose_86 : decode cX0_lose 86 = .ok (.iconst 0, 1) := by decide +kernel
theorem dX0_lose_87 : decode cX0_lose 87 = .ok (.ireturn, 1) := by decide +kernel
theorem dX0_lose_88 : decode cX0_lose 88 = .ok (.aload_n 0, 1) := by decide +kernel
theorem dX0_lose_89 : decode cX0_lose 89 = .ok (.iload_n 3, 1) := by decide +kernel
theorem dX0_lose_90 : decode cX0_lose 90 = .ok (.invokevirtual 136, 3) := by decide +kernel
theorem dX0_lose_93 : decode cX0_lose 93 = .ok (.iload_n 3, 1) := by decide +kernel
theorem dX0_lose_94 : decode cX0_lose 94 = .ok (.ireturn, 1) := by decide +kernel
theorem dX0_share_0 : decode cX0_share 0 = .ok (.aload_n 0, 1) := by decide +kernel
theorem dX0_share_1 : decode cX0_share 1 = .ok (.getfield 12, 3) := by decide +kernel
theorem dX0_share_4 : decode cX0_share 4 = .ok (.invokevirtual 139, 3) := by decide +kernel
theorem dX0_share_7 : decode cX0_share 7 = .ok (.istore_n 2, 1) := by decide +kernel
theorem dX0_share_8 : decode cX0_share 8 = .ok (.iload_n 2, 1) := by decide +kernel
theorem dX0_share_9 : decode cX0_share 9 = .ok (.ifCond .gt 4, 3) := by decide +kernel
theorem dX0_share_12 : decode cX0_share 12 = .ok (.return_, 1) := by decide +kernel
theorem dX0_share_13 : decode cX0_share 13 = .ok (.iload_n 1, 1) := by decide +kernel
theorem dX0_share_14 : decode cX0_share 14 = .ok (.istore_n 3, 1) := by decide +kernel
theorem dX0_share_15 : decode cX0_share 15 = .ok (.iconst 0, 1) := by decide +kernel
theorem dX0_share_16 : decode cX0_share 16 = .ok (.istore 4, 2) := by decide +kernel
theorem dX0_share_18 : decode cX0_share 18 = .ok (.iload 4, 2) := by decide +kernel
theorem dX0_share_20 : decode cX0_share 20 = .ok (.bipush 8, 2) := by decide +kernel
theorem dX0_share_22 : decode cX0_share 22 = .ok (.if_icmp .ge 60, 3) := by decide +kernel
theorem dX0_share_25 : decode cX0_share 25 = .ok (.aload_n 0, 1) := by decide +kernel
theorem dX0_share_26 : decode cX0_share 26 = .ok (.getfield 12, 3) := by decide +kernel
theorem dX0_share_29 : decode cX0_share 29 = .ok (.iload 4, 2) := by decide +kernel
theorem dX0_share_31 : decode cX0_share 31 = .ok (.invokevirtual 142, 3) := by decide +kernel
theorem dX0_share_34 : decode cX0_share 34 = .ok (.ifCond .ne 6, 3) := by decide +kernel
theorem dX0_share_37 : decode cX0_share 37 = .ok (.goto 45, 3) := by decide +kernel
theorem dX0_share_40 : decode cX0_share 40 = .ok (.iload_n 1, 1) := by decide +kernel
theorem dX0_share_41 : decode cX0_share 41 = .ok (.i2f, 1) := by decide +kernel
theorem dX0_share_42 : decode cX0_share 42 = .ok (.aload_n 0, 1) := by decide +kernel
theorem dX0_share_43 : decode cX0_share 43 = .ok (.getfield 12, 3) := by decide +kernel
theorem dX0_share_46 : decode cX0_share 46 = .ok (.getfield 143, 3) := by decide +kernel
theorem dX0_share_49 : decode cX0_share 49 = .ok (.iload 4, 2) := by decide +kernel
theorem dX0_share_51 : decode cX0_share 51 = .ok (.iaload, 1) := by decide +kernel
theorem dX0_share_52 : decode cX0_share 52 = .ok (.i2f, 1) := by decide +kernel
theorem dX0_share_53 : decode cX0_share 53 = .ok (.fmul, 1) := by decide +kernel
theorem dX0_share_54 : decode cX0_share 54 = .ok (.iload_n 2, 1) := by decide +kernel
theorem dX0_share_55 : decode cX0_share 55 = .ok (.i2f, 1) := by decide +kernel
theorem dX0_share_56 : decode cX0_share 56 = .ok (.fdiv, 1) := by decide +kernel
theorem dX0_share_57 : decode cX0_share 57 = .ok (.f2i, 1) := by decide +kernel
theorem dX0_share_58 : decode cX0_share 58 = .ok (.istore 5, 2) := by decide +kernel
theorem dX0_share_60 : decode cX0_share 60 = .ok (.aload_n 0, 1) := by decide +kernel
theorem dX0_share_61 : decode cX0_share 61 = .ok (.getfield 12, 3) := by decide +kernel
theorem dX0_share_64 : decode cX0_share 64 = .ok (.iload 4, 2) := by decide +kernel
theorem dX0_share_66 : decode cX0_share 66 = .ok (.iload 5, 2) := by decide +kernel
theorem dX0_share_68 : decode cX0_share 68 = .ok (.invokevirtual 146, 3) := by decide +kernel
theorem dX0_share_71 : decode cX0_share 71 = .ok (.iload_n 3, 1) := by decide +kernel
theorem dX0_share_72 : decode cX0_share 72 = .ok (.iload 5, 2) := by decide +kernel
theorem dX0_share_74 : decode cX0_share 74 = .ok (.isub, 1) := by decide +kernel
theorem dX0_share_75 : decode cX0_share 75 = .ok (.istore_n 3, 1) := by decide +kernel
theorem dX0_share_76 : decode cX0_share 76 = .ok (.iinc 4 1, 3) := by decide +kernel
theorem dX0_share_79 : decode cX0_share 79 = .ok (.goto (-61), 3) := by decide +kernel
theorem dX0_share_82 : decode cX0_share 82 = .ok (.iload_n 3, 1) := by decide +kernel
theorem dX0_share_83 : decode cX0_share 83 = .ok (.ifCond .ge 7, 3) := by decide +kernel
theorem dX0_share_86 : decode cX0_share 86 = .ok (.iconst (-1), 1) := by decide +kernel
theorem dX0_share_87 : decode cX0_share 87 = .ok (.goto 4, 3) := by decide +kernel
theorem dX0_share_90 : decode cX0_share 90 = .ok (.iconst 1, 1) := by decide +kernel
theorem dX0_share_91 : decode cX0_share 91 = .ok (.istore 4, 2) := by decide +kernel
theorem dX0_share_93 : decode cX0_share 93 = .ok (.iload_n 3, 1) := by decide +kernel
theorem dX0_share_94 : decode cX0_share 94 = .ok (.ifCond .ge 8, 3) := by decide +kernel
theorem dX0_share_97 : decode cX0_share 97 = .ok (.iload_n 3, 1) := by decide +kernel
theorem dX0_share_98 : decode cX0_share 98 = .ok (.ineg, 1) := by decide +kernel
theorem dX0_share_99 : decode cX0_share 99 = .ok (.goto 4, 3) := by decide +kernel
theorem dX0_share_102 : decode cX0_share 102 = .ok (.iload_n 3, 1) := by decide +kernel
theorem dX0_share_103 : decode cX0_share 103 = .ok (.istore 5, 2) := by decide +kernel
theorem dX0_share_105 : decode cX0_share 105 = .ok (.iconst 0, 1) := by decide +kernel
theorem dX0_share_106 : decode cX0_share 106 = .ok (.istore 6, 2) := by decide +kernel
theorem dX0_share_108 : decode cX0_share 108 = .ok (.iconst 0, 1) := by decide +kernel
theorem dX0_share_109 : decode cX0_share 109 = .ok (.istore 7, 2) := by decide +kernel
theorem dX0_share_111 : decode cX0_share 111 = .ok (.iload 7, 2) := by decide +kernel
theorem dX0_share_113 : decode cX0_share 113 = .ok (.iload 5, 2) := by decide +kernel
theorem dX0_share_115 : decode cX0_share 115 = .ok (.if_icmp .ge 44, 3) := by decide +kernel
theorem dX0_share_118 : decode cX0_share 118 = .ok (.aload_n 0, 1) := by decide +kernel
theorem dX0_share_119 : decode cX0_share 119 = .ok (.getfield 12, 3) := by decide +kernel
theorem dX0_share_122 : decode cX0_share 122 = .ok (.iload 6, 2) := by decide +kernel
theorem dX0_share_124 : decode cX0_share 124 = .ok (.iload 4, 2) := by decide +kernel
theorem dX0_share_126 : decode cX0_share 126 = .ok (.invokevirtual 146, 3) := by decide +kernel
theorem dX0_share_129 : decode cX0_share 129 = .ok (.aload_n 0, 1) := by decide +kernel
theorem dX0_share_130 : decode cX0_share 130 = .ok (.getfield 12, 3) := by decide +kernel
theorem dX0_share_133 : decode cX0_share 133 = .ok (.iload 6, 2) := by decide +kernel
theorem dX0_share_135 : decode cX0_share 135 = .ok (.iconst 1, 1) := by decide +kernel
theorem dX0_share_136 : decode cX0_share 136 = .ok (.iadd, 1) := by decide +kernel
theorem dX0_share_137 : decode cX0_share 137 = .ok (.invokevirtual 142, 3) := by decide +kernel
theorem dX0_share_140 : decode cX0_share 140 = .ok (.ifCond .eq 10, 3) := by decide +kernel
theorem dX0_share_143 : decode cX0_share 143 = .ok (.iload 6, 2) := by decide +kernel
theorem dX0_share_145 : decode cX0_share 145 = .ok (.iconst 1, 1) := by decide +kernel
theorem dX0_share_146 : decode cX0_share 146 = .ok (.iadd, 1) := by decide +kernel
theorem dX0_share_147 : decode cX0_share 147 = .ok (.goto 4, 3) := by decide +kernel
theorem dX0_share_150 : decode cX0_share 150 = .ok (.iconst 0, 1) := by decide +kernel
theorem dX0_share_151 : decode cX0_share 151 = .ok (.istore 6, 2) := by decide +kernel
theorem dX0_share_153 : decode cX0_share 153 = .ok (.iinc 7 1, 3) := by decide +kernel
theorem dX0_share_156 : decode cX0_share 156 = .ok (.goto (-45), 3) := by decide +kernel
theorem dX0_share_159 : decode cX0_share 159 = .ok (.aload_n 0, 1) := by decide +kernel
theorem dX0_share_160 : decode cX0_share 160 = .ok (.dup, 1) := by decide +kernel
theorem dX0_share_161 : decode cX0_share 161 = .ok (.getfield 95, 3) := by decide +kernel
theorem dX0_share_164 : decode cX0_share 164 = .ok (.iload_n 1, 1) := by decide +kernel
theorem dX0_share_165 : decode cX0_share 165 = .ok (.iadd, 1) := by decide +kernel
theorem dX0_share_166 : decode cX0_share 166 = .ok (.putfield 95, 3) := by decide +kernel
theorem dX0_share_169 : decode cX0_share 169 = .ok (.aload_n 0, 1) := by decide +kernel
theorem dX0_share_170 : decode cX0_share 170 = .ok (.dup, 1) := by decide +kernel
theorem dX0_share_171 : decode cX0_share 171 = .ok (.getfield 149, 3) := by decide +kernel
theorem dX0_share_174 : decode cX0_share 174 = .ok (.iload_n 1, 1) := by decide +kernel
theorem dX0_share_175 : decode cX0_share 175 = .ok (.iadd, 1) := by decide +kernel
theorem dX0_share_176 : decode cX0_share 176 = .ok (.putfield 149, 3) := by decide +kernel
theorem dX0_share_179 : decode cX0_share 179 = .ok (.return_, 1) := by decide +kernel
theorem dX0_copyFrom_0 : decode cX0_copyFrom 0 = .ok (.aload_n 0, 1) := by decide +kernel
theorem dX0_copyFrom_1 : decode cX0_copyFrom 1 = .ok (.getfield 12, 3) := by decide +kernel
theorem dX0_copyFrom_4 : decode cX0_copyFrom 4 = .ok (.aload_n 1, 1) := by decide +kernel
theorem dX0_copyFrom_5 : decode cX0_copyFrom 5 = .ok (.getfield 12, 3) := by decide +kernel
theorem dX0_copyFrom_8 : decode cX0_copyFrom 8 = .ok (.invokevirtual 152, 3) := by decide +kernel
theorem dX0_copyFrom_11 : decode cX0_copyFrom 11 = .ok (.aload_n 0, 1) := by decide +kernel
theorem dX0_copyFrom_12 : decode cX0_copyFrom 12 = .ok (.getfield 21, 3) := by decide +kernel
theorem dX0_copyFrom_15 : decode cX0_copyFrom 15 = .ok (.aload_n 1, 1) := by decide +kernel
theorem dX0_copyFrom_16 : decode cX0_copyFrom 16 = .ok (.getfield 21, 3) := by decide +kernel
theorem dX0_copyFrom_19 : decode cX0_copyFrom 19 = .ok (.invokevirtual 156, 3) := by decide +kernel
theorem dX0_copyFrom_22 : decode cX0_copyFrom 22 = .ok (.aload_n 0, 1) := by decide +kernel
theorem dX0_copyFrom_23 : decode cX0_copyFrom 23 = .ok (.getfield 28, 3) := by decide +kernel
theorem dX0_copyFrom_26 : decode cX0_copyFrom 26 = .ok (.aload_n 1, 1) := by decide +kernel
theorem dX0_copyFrom_27 : decode cX0_copyFrom 27 = .ok (.getfield 28, 3) := by decide +kernel
theorem dX0_copyFrom_30 : decode cX0_copyFrom 30 = .ok (.invokevirtual 159, 3) := by decide +kernel
theorem dX0_copyFrom_33 : decode cX0_copyFrom 33 = .ok (.iconst 0, 1) := by decide +kernel
theorem dX0_copyFrom_34 : decode cX0_copyFrom 34 = .ok (.istore_n 2, 1) := by decide +kernel
theorem dX0_copyFrom_35 : decode cX0_copyFrom 35 = .ok (.iload_n 2, 1) := by decide +kernel
theorem dX0_copyFrom_36 : decode cX0_copyFrom 36 = .ok (.iconst 3, 1) := by decide +kernel
theorem dX0_copyFrom_37 : decode cX0_copyFrom 37 = .ok (.if_icmp .ge 21, 3) := by decide +kernel
theorem dX0_copyFrom_40 : decode cX0_copyFrom 40 = .ok (.aload_n 0, 1) := by decide +kernel
theorem dX0_copyFrom_41 : decode cX0_copyFrom 41 = .ok (.getfield 32, 3) := by decide +kernel
theorem dX0_copyFrom_44 : decode cX0_copyFrom 44 = .ok (.iload_n 2, 1) := by decide +kernel
theorem dX0_copyFrom_45 : decode cX0_copyFrom 45 = .ok (.aload_n 1, 1) := by decide +kernel
theorem dX0_copyFrom_46 : decode cX0_copyFrom 46 = .ok (.getfield 32, 3) := by decide +kernel
theorem dX0_copyFrom_49 : decode cX0_copyFrom 49 = .ok (.iload_n 2, 1) := by decide +kernel
theorem dX0_copyFrom_50 : decode cX0_copyFrom 50 = .ok (.faload, 1) := by decide +kernel
theorem dX0_copyFrom_51 : decode cX0_copyFrom 51 = .ok (.fastore, 1) := by decide +kernel
theorem dX0_copyFrom_52 : decode cX0_copyFrom 52 = .ok (.iinc 2 1, 3) := by decide +kernel
theorem dX0_copyFrom_55 : decode cX0_copyFrom 55 = .ok (.goto (-20), 3) := by decide +kernel
theorem dX0_copyFrom_58 : decode cX0_copyFrom 58 = .ok (.aload_n 1, 1) := by decide +kernel
theorem dX0_copyFrom_59 : decode cX0_copyFrom 59 = .ok (.getfield 36, 3) := by decide +kernel
theorem dX0_copyFrom_62 : decode cX0_copyFrom 62 = .ok (.aload_n 0, 1) := by decide +kernel
theorem dX0_copyFrom_63 : decode cX0_copyFrom 63 = .ok (.getfield 36, 3) := by decide +kernel
theorem dX0_copyFrom_66 : decode cX0_copyFrom 66 = .ok (.invokestatic 162, 3) := by decide +kernel
theorem dX0_copyFrom_69 : decode cX0_copyFrom 69 = .ok (.aload_n 0, 1) := by decide +kernel
theorem dX0_copyFrom_70 : decode cX0_copyFrom 70 = .ok (.aload_n 1, 1) := by decide +kernel
theorem dX0_copyFrom_71 : decode cX0_copyFrom 71 = .ok (.getfield 53, 3) := by decide +kernel
theorem dX0_copyFrom_74 : decode cX0_copyFrom 74 = .ok (.putfield 53, 3) := by decide +kernel
theorem dX0_copyFrom_77 : decode cX0_copyFrom 77 = .ok (.aload_n 0, 1) := by decide +kernel
theorem dX0_copyFrom_78 : decode cX0_copyFrom 78 = .ok (.aload_n 1, 1) := by decide +kernel
theorem dX0_copyFrom_79 : decode cX0_copyFrom 79 = .ok (.getfield 95, 3) := by decide +kernel
theorem dX0_copyFrom_82 : decode cX0_copyFrom 82 = .ok (.putfield 95, 3) := by decide +kernel
theorem dX0_copyFrom_85 : decode cX0_copyFrom 85 = .ok (.aload_n 0, 1) := by decide +kernel
theorem dX0_copyFrom_86 : decode cX0_copyFrom 86 = .ok (.aload_n 1, 1) := by decide +kernel
theorem dX0_copyFrom_87 : decode cX0_copyFrom 87 = .ok (.getfield 114, 3) := by decide +kernel
theorem dX0_copyFrom_90 : decode cX0_copyFrom 90 = .ok (.putfield 114, 3) := by decide +kernel
theorem dX0_copyFrom_93 : decode cX0_copyFrom 93 = .ok (.aload_n 0, 1) := by decide +kernel
theorem dX0_copyFrom_94 : decode cX0_copyFrom 94 = .ok (.aload_n 1, 1) := by decide +kernel
theorem dX0_copyFrom_95 : decode cX0_copyFrom 95 = .ok (.getfield 117, 3) := by decide +kernel
theorem dX0_copyFrom_98 : decode cX0_copyFrom 98 = .ok (.putfield 117, 3) := by decide +kernel
theorem dX0_copyFrom_101 : decode cX0_copyFrom 101 = .ok (.aload_n 0, 1) := by decide +kernel
theorem dX0_copyFrom_102 : decode cX0_copyFrom 102 = .ok (.aload_n 1, 1) := by decide +kernel
theorem dX0_copyFrom_103 : decode cX0_copyFrom 103 = .ok (.getfield 130, 3) := by decide +kernel
theorem dX0_copyFrom_106 : decode cX0_copyFrom 106 = .ok (.putfield 130, 3) := by decide +kernel
theorem dX0_copyFrom_109 : decode cX0_copyFrom 109 = .ok (.aload_n 0, 1) := by decide +kernel
theorem dX0_copyFrom_110 : decode cX0_copyFrom 110 = .ok (.aload_n 1, 1) := by decide +kernel
theorem dX0_copyFrom_111 : decode cX0_copyFrom 111 = .ok (.getfield 149, 3) := by decide +kernel
theorem dX0_copyFrom_114 : decode cX0_copyFrom 114 = .ok (.putfield 149, 3) := by decide +kernel
theorem dX0_copyFrom_117 : decode cX0_copyFrom 117 = .ok (.return_, 1) := by decide +kernel
theorem dX1_init_0 : decode cX1_init 0 = .ok (.aload_n 0, 1) := by decide +kernel
theorem dX1_init_1 : decode cX1_init 1 = .ok (.invokespecial 3, 3) := by decide +kernel
theorem dX1_init_4 : decode cX1_init 4 = .ok (.aload_n 0, 1) := by decide +kernel
theorem dX1_init_5 : decode cX1_init 5 = .ok (.bipush 6, 2) := by decide +kernel
theorem dX1_init_7 : decode cX1_init 7 = .ok (.newarray .int, 2) := by decide +kernel
theorem dX1_init_9 : decode cX1_init 9 = .ok (.putfield 9, 3) := by decide +kernel
theorem dX1_init_12 : decode cX1_init 12 = .ok (.aload_n 0, 1) := by decide +kernel
theorem dX1_init_13 : decode cX1_init 13 = .ok (.bipush 6, 2) := by decide +kernel
theorem dX1_init_15 : decode cX1_init 15 = .ok (.newarray .int, 2) := by decide +kernel
theorem dX1_init_17 : decode cX1_init 17 = .ok (.putfield 15, 3) := by decide +kernel
theorem dX1_init_20 : decode cX1_init 20 = .ok (.aload_n 0, 1) := by decide +kernel
theorem dX1_init_21 : decode cX1_init 21 = .ok (.bipush 6, 2) := by decide +kernel
theorem dX1_init_23 : decode cX1_init 23 = .ok (.newarray .int, 2) := by decide +kernel
theorem dX1_init_25 : decode cX1_init 25 = .ok (.putfield 18, 3) := by decide +kernel
theorem dX1_init_28 : decode cX1_init 28 = .ok (.return_, 1) := by decide +kernel
theorem dX1_has_0 : decode cX1_has 0 = .ok (.iload_n 1, 1) := by decide +kernel
theorem dX1_has_1 : decode cX1_has 1 = .ok (.ifCond .lt 13, 3) := by decide +kernel
theorem dX1_has_4 : decode cX1_has 4 = .ok (.iload_n 1, 1) := by decide +kernel
theorem dX1_has_5 : decode cX1_has 5 = .ok (.bipush 6, 2) := by decide +kernel
theorem dX1_has_7 : decode cX1_has 7 = .ok (.if_icmp .ge 7, 3) := by decide +kernel
theorem dX1_has_10 : decode cX1_has 10 = .ok (.iconst 1, 1) := by decide +kernel
theorem dX1_has_11 : decode cX1_has 11 = .ok (.goto 4, 3) := by decide +kernel
theorem dX1_has_14 : decode cX1_has 14 = .ok (.iconst 0, 1) := by decide +kernel
theorem dX1_has_15 : decode cX1_has 15 = .ok (.ireturn, 1) := by decide +kernel
theorem dX1_riskOf_0 : decode cX1_riskOf 0 = .ok (.aload_n 0, 1) := by decide +kernel
theorem dX1_riskOf_1 : decode cX1_riskOf 1 = .ok (.iload_n 1, 1) := by decide +kernel
theorem dX1_riskOf_2 : decode cX1_riskOf 2 = .ok (.invokevirtual 21, 3) := by decide +kernel
theorem dX1_riskOf_5 : decode cX1_riskOf 5 = .ok (.ifCond .ne 7, 3) := by decide +kernel
theorem dX1_riskOf_8 : decode cX1_riskOf 8 = .ok (.invokestatic 25, 3) := by decide +kernel
theorem dX1_riskOf_11 : decode cX1_riskOf 11 = .ok (.freturn, 1) := by decide +kernel
theorem dX1_riskOf_12 : decode cX1_riskOf 12 = .ok (.aload_n 0, 1) := by decide +kernel
theorem dX1_riskOf_13 : decode cX1_riskOf 13 = .ok (.getfield 15, 3) := by decide +kernel
theorem dX1_riskOf_16 : decode cX1_riskOf 16 = .ok (.iload_n 1, 1) := by decide +kernel
theorem dX1_riskOf_17 : decode cX1_riskOf 17 = .ok (.iaload, 1) := by decide +kernel
theorem dX1_riskOf_18 : decode cX1_riskOf 18 = .ok (.iconst 1, 1) := by decide +kernel
theorem dX1_riskOf_19 : decode cX1_riskOf 19 = .ok (.iadd, 1) := by decide +kernel
theorem dX1_riskOf_20 : decode cX1_riskOf 20 = .ok (.i2f, 1) := by decide +kernel
theorem dX1_riskOf_21 : decode cX1_riskOf 21 = .ok (.aload_n 0, 1) := by decide +kernel
theorem dX1_riskOf_22 : decode cX1_riskOf 22 = .ok (.getfield 9, 3) := by decide +kernel
theorem dX1_riskOf_25 : decode cX1_riskOf 25 = .ok (.iload_n 1, 1) := by decide +kernel
theorem dX1_riskOf_26 : decode cX1_riskOf 26 = .ok (.iaload, 1) := by decide +kernel
theorem dX1_riskOf_27 : decode cX1_riskOf 27 = .ok (.aload_n 0, 1) := by decide +kernel
theorem dX1_riskOf_28 : decode cX1_riskOf 28 = .ok (.getfield 15, 3) := by decide +kernel
theorem dX1_riskOf_31 : decode cX1_riskOf 31 = .ok (.iload_n 1, 1) := by decide +kernel
theorem dX1_riskOf_32 : decode cX1_riskOf 32 = .ok (.iaload, 1) := by decide +kernel
theorem dX1_riskOf_33 : decode cX1_riskOf 33 = .ok (.iadd, 1) := by decide +kernel
theorem dX1_riskOf_34 : decode cX1_riskOf 34 = .ok (.iconst 2, 1) := by decide +kernel
theorem dX1_riskOf_35 : decode cX1_riskOf 35 = .ok (.iadd, 1) := by decide +kernel
theorem dX1_riskOf_36 : decode cX1_riskOf 36 = .ok (.i2f, 1) := by decide +kernel
theorem dX1_riskOf_37 : decode cX1_riskOf 37 = .ok (.fdiv, 1) := by decide +kernel
theorem dX1_riskOf_38 : decode cX1_riskOf 38 = .ok (.freturn, 1) := by decide +kernel
theorem dX1_latenessOf_0 : decode cX1_latenessOf 0 = .ok (.aload_n 0, 1) := by decide +kernel
theorem dX1_latenessOf_1 : decode cX1_latenessOf 1 = .ok (.iload_n 1, 1) := by decide +kernel
theorem dX1_latenessOf_2 : decode cX1_latenessOf 2 = .ok (.invokevirtual 21, 3) := by decide +kernel
theorem dX1_latenessOf_5 : decode cX1_latenessOf 5 = .ok (.ifCond .ne 7, 3) := by decide +kernel
theorem dX1_latenessOf_8 : decode cX1_latenessOf 8 = .ok (.invokestatic 25, 3) := by decide +kernel
theorem dX1_latenessOf_11 : decode cX1_latenessOf 11 = .ok (.freturn, 1) := by decide +kernel
theorem dX1_latenessOf_12 : decode cX1_latenessOf 12 = .ok (.aload_n 0, 1) := by decide +kernel
theorem dX1_latenessOf_13 : decode cX1_latenessOf 13 = .ok (.getfield 9, 3) := by decide +kernel
theorem dX1_latenessOf_16 : decode cX1_latenessOf 16 = .ok (.iload_n 1, 1) := by decide +kernel
theorem dX1_latenessOf_17 : decode cX1_latenessOf 17 = .ok (.iaload, 1) := by decide +kernel
theorem dX1_latenessOf_18 : decode cX1_latenessOf 18 = .ok (.ifCond .ne 5, 3) := by decide +kernel
theorem dX1_latenessOf_21 : decode cX1_latenessOf 21 = .ok (.fconst 0, 1) := by decide +kernel
theorem dX1_latenessOf_22 : decode cX1_latenessOf 22 = .ok (.freturn, 1) := by decide +kernel
theorem dX1_latenessOf_23 : decode cX1_latenessOf 23 = .ok (.aload_n 0, 1) := by decide +kernel
theorem dX1_latenessOf_24 : decode cX1_latenessOf 24 = .ok (.getfield 18, 3) := by decide +kernel
theorem dX1_latenessOf_27 : decode cX1_latenessOf 27 = .ok (.iload_n 1, 1) := by decide +kernel
theorem dX1_latenessOf_28 : decode cX1_latenessOf 28 = .ok (.iaload, 1) := by decide +kernel
theorem dX1_latenessOf_29 : decode cX1_latenessOf 29 = .ok (.i2f, 1) := by decide +kernel
theorem dX1_latenessOf_30 : decode cX1_latenessOf 30 = .ok (.aload_n 0, 1) := by decide +kernel
theorem dX1_latenessOf_31 : decode cX1_latenessOf 31 = .ok (.getfield 9, 3) := by decide +kernel
theorem dX1_latenessOf_34 : decode cX1_latenessOf 34 = .ok (.iload_n 1, 1) := by decide +kernel
theorem dX1_latenessOf_35 : decode cX1_latenessOf 35 = .ok (.iaload, 1) := by decide +kernel
theorem dX1_latenessOf_36 : decode cX1_latenessOf 36 = .ok (.i2f, 1) := by decide +kernel
theorem dX1_latenessOf_37 : decode cX1_latenessOf 37 = .ok (.fdiv, 1) := by decide +kernel
theorem dX1_latenessOf_38 : decode cX1_latenessOf 38 = .ok (.freturn, 1) := by decide +kernel
theorem dX1_addSettled_0 : decode cX1_addSettled 0 = .ok (.aload_n 0, 1) := by decide +kernel
theorem dX1_addSettled_1 : decode cX1_addSettled 1 = .ok (.iload_n 1, 1) := by decide +kernel
theorem dX1_addSettled_2 : decode cX1_addSettled 2 = .ok (.invokevirtual 21, 3) := by decide +kernel
theorem dX1_addSettled_5 : decode cX1_addSettled 5 = .ok (.ifCond .ne 4, 3) := by decide +kernel
theorem dX1_addSettled_8 : decode cX1_addSettled 8 = .ok (.return_, 1) := by decide +kernel
theorem dX1_addSettled_9 : decode cX1_addSettled 9 = .ok (.aload_n 0, 1) := by decide +kernel
theorem dX1_addSettled_10 : decode cX1_addSettled 10 = .ok (.getfield 9, 3) := by decide +kernel
theorem dX1_addSettled_13 : decode cX1_addSettled 13 = .ok (.iload_n 1, 1) := by decide +kernel
theorem dX1_addSettled_14 : decode cX1_addSettled 14 = .ok (.dup2, 1) := by decide +kernel
theorem dX1_addSettled_15 : decode cX1_addSettled 15 = .ok (.iaload, 1) := by decide +kernel
theorem dX1_addSettled_16 : decode cX1_addSettled 16 = .ok (.iconst 1, 1) := by decide +kernel
theorem dX1_addSettled_17 : decode cX1_addSettled 17 = .ok (.iadd, 1) := by decide +kernel
theorem dX1_addSettled_18 : decode cX1_addSettled 18 = .ok (.iastore, 1) := by decide +kernel
theorem dX1_addSettled_19 : decode cX1_addSettled 19 = .ok (.aload_n 0, 1) := by decide +kernel
theorem dX1_addSettled_20 : decode cX1_addSettled 20 = .ok (.getfield 18, 3) := by decide +kernel
theorem dX1_addSettled_23 : decode cX1_addSettled 23 = .ok (.iload_n 1, 1) := by decide +kernel
theorem dX1_addSettled_24 : decode cX1_addSettled 24 = .ok (.dup2, 1) := by decide +kernel
theorem dX1_addSettled_25 : decode cX1_addSettled 25 = .ok (.iaload, 1) := by decide +kernel
theorem dX1_addSettled_26 : decode cX1_addSettled 26 = .ok (.iload_n 2, 1) := by decide +kernel
theorem dX1_addSettled_27 : decode cX1_addSettled 27 = .ok (.iadd, 1) := by decide +kernel
theorem dX1_addSettled_28 : decode cX1_addSettled 28 = .ok (.iastore, 1) := by decide +kernel
theorem dX1_addSettled_29 : decode cX1_addSettled 29 = .ok (.return_, 1) := by decide +kernel
theorem dX1_addLost_0 : decode cX1_addLost 0 = .ok (.aload_n 0, 1) := by decide +kernel
theorem dX1_addLost_1 : decode cX1_addLost 1 = .ok (.iload_n 1, 1) := by decide +kernel
theorem dX1_addLost_2 : decode cX1_addLost 2 = .ok (.invokevirtual 21, 3) := by decide +kernel
theorem dX1_addLost_5 : decode cX1_addLost 5 = .ok (.ifCond .eq 13, 3) := by decide +kernel
theorem dX1_addLost_8 : decode cX1_addLost 8 = .ok (.aload_n 0, 1) := by decide +kernel
theorem dX1_addLost_9 : decode cX1_addLost 9 = .ok (.getfield 15, 3) := by decide +kernel
theorem dX1_addLost_12 : decode cX1_addLost 12 = .ok (.iload_n 1, 1) := by decide +kernel
theorem dX1_addLost_13 : decode cX1_addLost 13 = .ok (.dup2, 1) := by decide +kernel
theorem dX1_addLost_14 : decode cX1_addLost 14 = .ok (.iaload, 1) := by decide +kernel
theorem dX1_addLost_15 : decode cX1_addLost 15 = .ok (.iconst 1, 1) := by decide +kernel
theorem dX1_addLost_16 : decode cX1_addLost 16 = .ok (.iadd, 1) := by decide +kernel
theorem dX1_addLost_17 : decode cX1_addLost 17 = .ok (.iastore, 1) := by decide +kernel
theorem dX1_addLost_18 : decode cX1_addLost 18 = .ok (.return_, 1) := by decide +kernel
theorem dX1_copyFrom_0 : decode cX1_copyFrom 0 = .ok (.aload_n 1, 1) := by decide +kernel
theorem dX1_copyFrom_1 : decode cX1_copyFrom 1 = .ok (.getfield 9, 3) := by decide +kernel
theorem dX1_copyFrom_4 : decode cX1_copyFrom 4 = .ok (.aload_n 0, 1) := by decide +kernel
theorem dX1_copyFrom_5 : decode cX1_copyFrom 5 = .ok (.getfield 9, 3) := by decide +kernel
theorem dX1_copyFrom_8 : decode cX1_copyFrom 8 = .ok (.invokestatic 29, 3) := by decide +kernel
theorem dX1_copyFrom_11 : decode cX1_copyFrom 11 = .ok (.aload_n 1, 1) := by decide +kernel
theorem dX1_copyFrom_12 : decode cX1_copyFrom 12 = .ok (.getfield 15, 3) := by decide +kernel
theorem dX1_copyFrom_15 : decode cX1_copyFrom 15 = .ok (.aload_n 0, 1) := by decide +kernel
theorem dX1_copyFrom_16 : decode cX1_copyFrom 16 = .ok (.getfield 15, 3) := by decide +kernel
theorem dX1_copyFrom_19 : decode cX1_copyFrom 19 = .ok (.invokestatic 29, 3) := by decide +kernel
theorem dX1_copyFrom_22 : decode cX1_copyFrom 22 = .ok (.aload_n 1, 1) := by decide +kernel
theorem dX1_copyFrom_23 : decode cX1_copyFrom 23 = .ok (.getfield 18, 3) := by decide +kernel
theorem dX1_copyFrom_26 : decode cX1_copyFrom 26 = .ok (.aload_n 0, 1) := by decide +kernel
theorem dX1_copyFrom_27 : decode cX1_copyFrom 27 = .ok (.getfield 18, 3) := by decide +kernel
theorem dX1_copyFrom_30 : decode cX1_copyFrom 30 = .ok (.invokestatic 29, 3) := by decide +kernel
theorem dX1_copyFrom_33 : decode cX1_copyFrom 33 = .ok (.return_, 1) := by decide +kernel
theorem dX2_init_0 : decode cX2_init 0 = .ok (.aload_n 0, 1) := by decide +kernel
theorem dX2_init_1 : decode cX2_init 1 = .ok (.invokespecial 3, 3) := by decide +kernel
theorem dX2_init_4 : decode cX2_init 4 = .ok (.aload_n 0, 1) := by decide +kernel
theorem dX2_init_5 : decode cX2_init 5 = .ok (.iconst 4, 1) := by decide +kernel
theorem dX2_init_6 : decode cX2_init 6 = .ok (.anewarray 9, 3) := by decide +kernel
theorem dX2_init_9 : decode cX2_init 9 = .ok (.putfield 11, 3) := by decide +kernel
theorem dX2_init_12 : decode cX2_init 12 = .ok (.iconst 0, 1) := by decide +kernel
theorem dX2_init_13 : decode cX2_init 13 = .ok (.istore_n 1, 1) := by decide +kernel
theorem dX2_init_14 : decode cX2_init 14 = .ok (.iload_n 1, 1) := by decide +kernel
theorem dX2_init_15 : decode cX2_init 15 = .ok (.iconst 4, 1) := by decide +kernel
theorem dX2_init_16 : decode cX2_init 16 = .ok (.if_icmp .ge 22, 3) := by decide +kernel
theorem dX2_init_19 : decode cX2_init 19 = .ok (.aload_n 0, 1) := by decide +kernel
theorem dX2_init_20 : decode cX2_init 20 = .ok (.getfield 11, 3) := by decide +kernel
theorem dX2_init_23 : decode cX2_init 23 = .ok (.iload_n 1, 1) := by decide +kernel
theorem dX2_init_24 : decode cX2_init 24 = .ok (.new 9, 3) := by decide +kernel
theorem dX2_init_27 : decode cX2_init 27 = .ok (.dup, 1) := by decide +kernel
theorem dX2_init_28 : decode cX2_init 28 = .ok (.invokespecial 17, 3) := by decide +kernel
theorem dX2_init_31 : decode cX2_init 31 = .ok (.aastore, 1) := by decide +kernel
theorem dX2_init_32 : decode cX2_init 32 = .ok (.iinc 1 1, 3) := by decide +kernel
theorem dX2_init_35 : decode cX2_init 35 = .ok (.goto (-21), 3) := by decide +kernel
theorem dX2_init_38 : decode cX2_init 38 = .ok (.return_, 1) := by decide +kernel
theorem dX2_push_0 : decode cX2_push 0 = .ok (.aload_n 1, 1) := by decide +kernel
theorem dX2_push_1 : decode cX2_push 1 = .ok (.aload_n 0, 1) := by decide +kernel
theorem dX2_push_2 : decode cX2_push 2 = .ok (.aload_n 0, 1) := by decide +kernel
theorem dX2_push_3 : decode cX2_push 3 = .ok (.getfield 18, 3) := by decide +kernel
theorem dX2_push_6 : decode cX2_push 6 = .ok (.invokevirtual 22, 3) := by decide +kernel
theorem dX2_push_9 : decode cX2_push 9 = .ok (.invokestatic 26, 3) := by decide +kernel
theorem dX2_push_12 : decode cX2_push 12 = .ok (.aload_n 0, 1) := by decide +kernel
theorem dX2_push_13 : decode cX2_push 13 = .ok (.aload_n 0, 1) := by decide +kernel
theorem dX2_push_14 : decode cX2_push 14 = .ok (.getfield 18, 3) := by decide +kernel
theorem dX2_push_17 : decode cX2_push 17 = .ok (.iconst 1, 1) := by decide +kernel
theorem dX2_push_18 : decode cX2_push 18 = .ok (.iadd, 1) := by decide +kernel
theorem dX2_push_19 : decode cX2_push 19 = .ok (.iconst 4, 1) := by decide +kernel
theorem dX2_push_20 : decode cX2_push 20 = .ok (.if_icmp .ge 12, 3) := by decide +kernel
theorem dX2_push_23 : decode cX2_push 23 = .ok (.aload_n 0, 1) := by decide +kernel
theorem dX2_push_24 : decode cX2_push 24 = .ok (.getfield 18, 3) := by decide +kernel
theorem dX2_push_27 : decode cX2_push 27 = .ok (.iconst 1, 1) := by decide +kernel
theorem dX2_push_28 : decode cX2_push 28 = .ok (.iadd, 1) := by decide +kernel
theorem dX2_push_29 : decode cX2_push 29 = .ok (.goto 4, 3) := by decide +kernel
theorem dX2_push_32 : decode cX2_push 32 = .ok (.iconst 0, 1) := by decide +kernel
theorem dX2_push_33 : decode cX2_push 33 = .ok (.putfield 18, 3) := by decide +kernel
theorem dX2_push_36 : decode cX2_push 36 = .ok (.aload_n 0, 1) := by decide +kernel
theorem dX2_push_37 : decode cX2_push 37 = .ok (.getfield 30, 3) := by decide +kernel
theorem dX2_push_40 : decode cX2_push 40 = .ok (.iconst 4, 1) := by decide +kernel
theorem dX2_push_41 : decode cX2_push 41 = .ok (.if_icmp .ge 13, 3) := by decide +kernel
theorem dX2_push_44 : decode cX2_push 44 = .ok (.aload_n 0, 1) := by decide +kernel
theorem dX2_push_45 : decode cX2_push 45 = .ok (.dup, 1) := by decide +kernel
theorem dX2_push_46 : decode cX2_push 46 = .ok (.getfield 30, 3) := by decide +kernel
theorem dX2_push_49 : decode cX2_push 49 = .ok (.iconst 1, 1) := by decide +kernel
theorem dX2_push_50 : decode cX2_push 50 = .ok (.iadd, 1) := by decide +kernel
theorem dX2_push_51 : decode cX2_push 51 = .ok (.putfield 30, 3) := by decide +kernel
theorem dX2_push_54 : decode cX2_push 54 = .ok (.return_, 1) := by decide +kernel
theorem dX2_popInto_0 : decode cX2_popInto 0 = .ok (.aload_n 0, 1) := by decide +kernel
theorem dX2_popInto_1 : decode cX2_popInto 1 = .ok (.getfield 30, 3) := by decide +kernel
theorem dX2_popInto_4 : decode cX2_popInto 4 = .ok (.ifCond .ne 4, 3) := by decide +kernel
theorem dX2_popInto_7 : decode cX2_popInto 7 = .ok (.return_, 1) := by decide +kernel
theorem dX2_popInto_8 : decode cX2_popInto 8 = .ok (.aload_n 0, 1) := by decide +kernel
theorem dX2_popInto_9 : decode cX2_popInto 9 = .ok (.aload_n 0, 1) := by decide +kernel
theorem dX2_popInto_10 : decode cX2_popInto 10 = .ok (.getfield 18, 3) := by decide +kernel
theorem dX2_popInto_13 : decode cX2_popInto 13 = .ok (.ifCond .le 12, 3) := by decide +kernel
theorem dX2_popInto_16 : decode cX2_popInto 16 = .ok (.aload_n 0, 1) := by decide +kernel
theorem dX2_popInto_17 : decode cX2_popInto 17 = .ok (.getfield 18, 3) := by decide +kernel
theorem dX2_popInto_20 : decode cX2_popInto 20 = .ok (.iconst 1, 1) := by decide +kernel
theorem dX2_popInto_21 : decode cX2_popInto 21 = .ok (.isub, 1) := by decide +kernel
theorem dX2_popInto_22 : decode cX2_popInto 22 = .ok (.goto 4, 3) := by decide +kernel
theorem dX2_popInto_25 : decode cX2_popInto 25 = .ok (.iconst 3, 1) := by decide +kernel
theorem dX2_popInto_26 : decode cX2_popInto 26 = .ok (.putfield 18, 3) := by decide +kernel
theorem dX2_popInto_29 : decode cX2_popInto 29 = .ok (.aload_n 0, 1) := by decide +kernel
theorem dX2_popInto_30 : decode cX2_popInto 30 = .ok (.dup, 1) := by decide +kernel
theorem dX2_popInto_31 : decode cX2_popInto 31 = .ok (.getfield 30, 3) := by decide +kernel
theorem dX2_popInto_34 : decode cX2_popInto 34 = .ok (.iconst 1, 1) := by decide +kernel
theorem dX2_popInto_35 : decode cX2_popInto 35 = .ok (.isub, 1) := by decide +kernel
theorem dX2_popInto_36 : decode cX2_popInto 36 = .ok (.putfield 30, 3) := by decide +kernel
theorem dX2_popInto_39 : decode cX2_popInto 39 = .ok (.aload_n 0, 1) := by decide +kernel
theorem dX2_popInto_40 : decode cX2_popInto 40 = .ok (.aload_n 0, 1) := by decide +kernel
theorem dX2_popInto_41 : decode cX2_popInto 41 = .ok (.getfield 18, 3) := by decide +kernel
theorem dX2_popInto_44 : decode cX2_popInto 44 = .ok (.invokevirtual 22, 3) := by decide +kernel
theorem dX2_popInto_47 : decode cX2_popInto 47 = .ok (.aload_n 1, 1) := by decide +kernel
theorem dX2_popInto_48 : decode cX2_popInto 48 = .ok (.invokestatic 26, 3) := by decide +kernel
theorem dX2_popInto_51 : decode cX2_popInto 51 = .ok (.return_, 1) := by decide +kernel
theorem dX2_stateAt_0 : decode cX2_stateAt 0 = .ok (.iload_n 1, 1) := by decide +kernel
theorem dX2_stateAt_1 : decode cX2_stateAt 1 = .ok (.ifCond .lt 8, 3) := by decide +kernel
theorem dX2_stateAt_4 : decode cX2_stateAt 4 = .ok (.iload_n 1, 1) := by decide +kernel
theorem dX2_stateAt_5 : decode cX2_stateAt 5 = .ok (.iconst 4, 1) := by decide +kernel
theorem dX2_stateAt_6 : decode cX2_stateAt 6 = .ok (.if_icmp .lt 7, 3) := by decide +kernel
theorem dX2_stateAt_9 : decode cX2_stateAt 9 = .ok (.aconst_null, 1) := by decide +kernel
theorem dX2_stateAt_10 : decode cX2_stateAt 10 = .ok (.goto 9, 3) := by decide +kernel
theorem dX2_stateAt_13 : decode cX2_stateAt 13 = .ok (.aload_n 0, 1) := by decide +kernel
theorem dX2_stateAt_14 : decode cX2_stateAt 14 = .ok (.getfield 11, 3) := by decide +kernel
theorem dX2_stateAt_17 : decode cX2_stateAt 17 = .ok (.iload_n 1, 1) := by decide +kernel
theorem dX2_stateAt_18 : decode cX2_stateAt 18 = .ok (.aaload, 1) := by decide +kernel
theorem dX2_stateAt_19 : decode cX2_stateAt 19 = .ok (.areturn, 1) := by decide +kernel
theorem dX2_copy_0 : decode cX2_copy 0 = .ok (.aload_n 0, 1) := by decide +kernel
theorem dX2_copy_1 : decode cX2_copy 1 = .ok (.ifnull 12, 3) := by decide +kernel
theorem dX2_copy_4 : decode cX2_copy 4 = .ok (.aload_n 1, 1) := by decide +kernel
theorem dX2_copy_5 : decode cX2_copy 5 = .ok (.ifnull 8, 3) := by decide +kernel
theorem dX2_copy_8 : decode cX2_copy 8 = .ok (.aload_n 1, 1) := by decide +kernel
theorem dX2_copy_9 : decode cX2_copy 9 = .ok (.aload_n 0, 1) := by decide +kernel
theorem dX2_copy_10 : decode cX2_copy 10 = .ok (.invokevirtual 33, 3) := by decide +kernel
theorem dX2_copy_13 : decode cX2_copy 13 = .ok (.return_, 1) := by decide +kernel
theorem dX3_init_0 : decode cX3_init 0 = .ok (.aload_n 0, 1) := by decide +kernel
theorem dX3_init_1 : decode cX3_init 1 = .ok (.invokespecial 3, 3) := by decide +kernel
theorem dX3_init_4 : decode cX3_init 4 = .ok (.aload_n 0, 1) := by decide +kernel
theorem dX3_init_5 : decode cX3_init 5 = .ok (.bipush 20, 2) := by decide +kernel
theorem dX3_init_7 : decode cX3_init 7 = .ok (.newarray .int, 2) := by decide +kernel
theorem dX3_init_9 : decode cX3_init 9 = .ok (.putfield 9, 3) := by decide +kernel
theorem dX3_init_12 : decode cX3_init 12 = .ok (.aload_n 0, 1) := by decide +kernel
theorem dX3_init_13 : decode cX3_init 13 = .ok (.bipush 20, 2) := by decide +kernel
theorem dX3_init_15 : decode cX3_init 15 = .ok (.newarray .int, 2) := by decide +kernel
theorem dX3_init_17 : decode cX3_init 17 = .ok (.putfield 15, 3) := by decide +kernel
theorem dX3_init_20 : decode cX3_init 20 = .ok (.aload_n 0, 1) := by decide +kernel
theorem dX3_init_21 : decode cX3_init 21 = .ok (.bipush 20, 2) := by decide +kernel
theorem dX3_init_23 : decode cX3_init 23 = .ok (.newarray .int, 2) := by decide +kernel
theorem dX3_init_25 : decode cX3_init 25 = .ok (.putfield 18, 3) := by decide +kernel
theorem dX3_init_28 : decode cX3_init 28 = .ok (.aload_n 0, 1) := by decide +kernel
theorem dX3_init_29 : decode cX3_init 29 = .ok (.bipush 20, 2) := by decide +kernel
theorem dX3_init_31 : decode cX3_init 31 = .ok (.newarray .int, 2) := by decide +kernel
theorem dX3_init_33 : decode cX3_init 33 = .ok (.putfield 21, 3) := by decide +kernel
theorem dX3_init_36 : decode cX3_init 36 = .ok (.aload_n 0, 1) := by decide +kernel
theorem dX3_init_37 : decode cX3_init 37 = .ok (.bipush 20, 2) := by decide +kernel
theorem dX3_init_39 : decode cX3_init 39 = .ok (.newarray .int, 2) := by decide +kernel
theorem dX3_init_41 : decode cX3_init 41 = .ok (.putfield 24, 3) := by decide +kernel
theorem dX3_init_44 : decode cX3_init 44 = .ok (.aload_n 0, 1) := by decide +kernel
theorem dX3_init_45 : decode cX3_init 45 = .ok (.bipush 20, 2) := by decide +kernel
theorem dX3_init_47 : decode cX3_init 47 = .ok (.newarray .int, 2) := by decide +kernel
theorem dX3_init_49 : decode cX3_init 49 = .ok (.putfield 27, 3) := by decide +kernel
theorem dX3_init_52 : decode cX3_init 52 = .ok (.aload_n 0, 1) := by decide +kernel
theorem dX3_init_53 : decode cX3_init 53 = .ok (.bipush 20, 2) := by decide +kernel
theorem dX3_init_55 : decode cX3_init 55 = .ok (.newarray .int, 2) := by decide +kernel
theorem dX3_init_57 : decode cX3_init 57 = .ok (.putfield 30, 3) := by decide +kernel
theorem dX3_init_60 : decode cX3_init 60 = .ok (.return_, 1) := by decide +kernel
theorem dX3_has_0 : decode cX3_has 0 = .ok (.iload_n 1, 1) := by decide +kernel
theorem dX3_has_1 : decode cX3_has 1 = .ok (.ifCond .lt 21, 3) := by decide +kernel
theorem dX3_has_4 : decode cX3_has 4 = .ok (.iload_n 1, 1) := by decide +kernel
theorem dX3_has_5 : decode cX3_has 5 = .ok (.aload_n 0, 1) := by decide +kernel
theorem dX3_has_6 : decode cX3_has 6 = .ok (.getfield 33, 3) := by decide +kernel
theorem dX3_has_9 : decode cX3_has 9 = .ok (.if_icmp .ge 13, 3) := by decide +kernel
theorem dX3_has_12 : decode cX3_has 12 = .ok (.iload_n 1, 1) := by decide +kernel
theorem dX3_has_13 : decode cX3_has 13 = .ok (.bipush 20, 2) := by decide +kernel
theorem dX3_has_15 : decode cX3_has 15 = .ok (.if_icmp .ge 7, 3) := by decide +kernel
theorem dX3_has_18 : decode cX3_has 18 = .ok (.iconst 1, 1) := by decide +kernel
theorem dX3_has_19 : decode cX3_has 19 = .ok (.goto 4, 3) := by decide +kernel
theorem dX3_has_22 : decode cX3_has 22 = .ok (.iconst 0, 1) := by decide +kernel
theorem dX3_has_23 : decode cX3_has 23 = .ok (.ireturn, 1) := by decide +kernel
theorem dX3_append_0 : decode cX3_append 0 = .ok (.aload_n 0, 1) := by decide +kernel
theorem dX3_append_1 : decode cX3_append 1 = .ok (.getfield 33, 3) := by decide +kernel
theorem dX3_append_4 : decode cX3_append 4 = .ok (.ifCond .lt 12, 3) := by decide +kernel
theorem dX3_append_7 : decode cX3_append 7 = .ok (.aload_n 0, 1) := by decide +kernel
theorem dX3_append_8 : decode cX3_append 8 = .ok (.getfield 33, 3) := by decide +kernel
theorem dX3_append_11 : decode cX3_append 11 = .ok (.bipush 20, 2) := by decide +kernel
theorem dX3_append_13 : decode cX3_append 13 = .ok (.if_icmp .lt 6, 3) := by decide +kernel
theorem dX3_append_16 : decode cX3_append 16 = .ok (.bipush (-3), 2) := by decide +kernel
theorem dX3_append_18 : decode cX3_append 18 = .ok (.ireturn, 1) := by decide +kernel
theorem dX3_append_19 : decode cX3_append 19 = .ok (.aload_n 0, 1) := by decide +kernel
theorem dX3_append_20 : decode cX3_append 20 = .ok (.getfield 9, 3) := by decide +kernel
theorem dX3_append_23 : decode cX3_append 23 = .ok (.aload_n 0, 1) := by decide +kernel
theorem dX3_append_24 : decode cX3_append 24 = .ok (.getfield 33, 3) := by decide +kernel
theorem dX3_append_27 : decode cX3_append 27 = .ok (.iload_n 1, 1) := by decide +kernel
theorem dX3_append_28 : decode cX3_append 28 = .ok (.iastore, 1) := by decide +kernel
theorem dX3_append_29 : decode cX3_append 29 = .ok (.aload_n 0, 1) := by decide +kernel
theorem dX3_append_30 : decode cX3_append 30 = .ok (.getfield 15, 3) := by decide +kernel
theorem dX3_append_33 : decode cX3_append 33 = .ok (.aload_n 0, 1) := by decide +kernel
theorem dX3_append_34 : decode cX3_append 34 = .ok (.getfield 33, 3) := by decide +kernel
theorem dX3_append_37 : decode cX3_append 37 = .ok (.iload_n 2, 1) := by decide +kernel
theorem dX3_append_38 : decode cX3_append 38 = .ok (.iastore, 1) := by decide +kernel
theorem dX3_append_39 : decode cX3_append 39 = .ok (.aload_n 0, 1) := by decide +kernel
theorem dX3_append_40 : decode cX3_append 40 = .ok (.getfield 18, 3) := by decide +kernel
theorem dX3_append_43 : decode cX3_append 43 = .ok (.aload_n 0, 1) := by decide +kernel
theorem dX3_append_44 : decode cX3_append 44 = .ok (.getfield 33, 3) := by decide +kernel
theorem dX3_append_47 : decode cX3_append 47 = .ok (.iload_n 3, 1) := by decide +kernel
theorem dX3_append_48 : decode cX3_append 48 = .ok (.iastore, 1) := by decide +kernel
theorem dX3_append_49 : decode cX3_append 49 = .ok (.aload_n 0, 1) := by decide +kernel
theorem dX3_append_50 : decode cX3_append 50 = .ok (.getfield 21, 3) := by decide +kernel
theorem dX3_append_53 : decode cX3_append 53 = .ok (.aload_n 0, 1) := by decide +kernel
theorem dX3_append_54 : decode cX3_append 54 = .ok (.getfield 33, 3) := by decide +kernel
theorem dX3_append_57 : decode cX3_append 57 = .ok (.iload 4, 2) := by decide +kernel
theorem dX3_append_59 : decode cX3_append 59 = .ok (.iastore, 1) := by decide +kernel
theorem dX3_append_60 : decode cX3_append 60 = .ok (.aload_n 0, 1) := by decide +kernel
theorem dX3_append_61 : decode cX3_append 61 = .ok (.getfield 24, 3) := by decide +kernel
theorem dX3_append_64 : decode cX3_append 64 = .ok (.aload_n 0, 1) := by decide +kernel
theorem dX3_append_65 : decode cX3_append 65 = .ok (.getfield 33, 3) := by decide +kernel
theorem dX3_append_68 : decode cX3_append 68 = .ok (.iconst 0, 1) := by decide +kernel
theorem dX3_append_69 : decode cX3_append 69 = .ok (.iastore, 1) := by decide +kernel
theorem dX3_append_70 : decode cX3_append 70 = .ok (.aload_n 0, 1) := by decide +kernel
theorem dX3_append_71 : decode cX3_append 71 = .ok (.getfield 27, 3) := by decide +kernel
theorem dX3_append_74 : decode cX3_append 74 = .ok (.aload_n 0, 1) := by decide +kernel
theorem dX3_append_75 : decode cX3_append 75 = .ok (.getfield 33, 3) := by decide +kernel
theorem dX3_append_78 : decode cX3_append 78 = .ok (.iconst 0, 1) := by decide +kernel
theorem dX3_append_79 : decode cX3_append 79 = .ok (.iastore, 1) := by decide +kernel
theorem dX3_append_80 : decode cX3_append 80 = .ok (.aload_n 0, 1) := by decide +kernel
theorem dX3_append_81 : decode cX3_append 81 = .ok (.getfield 30, 3) := by decide +kernel
theorem dX3_append_84 : decode cX3_append 84 = .ok (.aload_n 0, 1) := by decide +kernel
theorem dX3_append_85 : decode cX3_append 85 = .ok (.getfield 33, 3) := by decide +kernel
theorem dX3_append_88 : decode cX3_append 88 = .ok (.iconst 0, 1) := by decide +kernel
theorem dX3_append_89 : decode cX3_append 89 = .ok (.iastore, 1) := by decide +kernel
theorem dX3_append_90 : decode cX3_append 90 = .ok (.aload_n 0, 1) := by decide +kernel
theorem dX3_append_91 : decode cX3_append 91 = .ok (.dup, 1) := by decide +kernel
theorem dX3_append_92 : decode cX3_append 92 = .ok (.getfield 33, 3) := by decide +kernel
theorem dX3_append_95 : decode cX3_append 95 = .ok (.iconst 1, 1) := by decide +kernel
theorem dX3_append_96 : decode cX3_append 96 = .ok (.iadd, 1) := by decide +kernel
theorem dX3_append_97 : decode cX3_append 97 = .ok (.putfield 33, 3) := by decide +kernel
theorem dX3_append_100 : decode cX3_append 100 = .ok (.aload_n 0, 1) := by decide +kernel
theorem dX3_append_101 : decode cX3_append 101 = .ok (.getfield 33, 3) := by decide +kernel
theorem dX3_append_104 : decode cX3_append 104 = .ok (.iconst 1, 1) := by decide +kernel
theorem dX3_append_105 : decode cX3_append 105 = .ok (.isub, 1) := by decide +kernel
theorem dX3_append_106 : decode cX3_append 106 = .ok (.ireturn, 1) := by decide +kernel
theorem dX3_isUnsettled_0 : decode cX3_isUnsettled 0 = .ok (.aload_n 0, 1) := by decide +kernel
theorem dX3_isUnsettled_1 : decode cX3_isUnsettled 1 = .ok (.iload_n 1, 1) := by decide +kernel
theorem dX3_isUnsettled_2 : decode cX3_isUnsettled 2 = .ok (.invokevirtual 37, 3) := by decide +kernel
theorem dX3_isUnsettled_5 : decode cX3_isUnsettled 5 = .ok (.ifCond .eq 26, 3) := by decide +kernel
theorem dX3_isUnsettled_8 : decode cX3_isUnsettled 8 = .ok (.aload_n 0, 1) := by decide +kernel
theorem dX3_isUnsettled_9 : decode cX3_isUnsettled 9 = .ok (.getfield 24, 3) := by decide +kernel
theorem dX3_isUnsettled_12 : decode cX3_isUnsettled 12 = .ok (.iload_n 1, 1) := by decide +kernel
theorem dX3_isUnsettled_13 : decode cX3_isUnsettled 13 = .ok (.iaload, 1) := by decide +kernel
theorem dX3_isUnsettled_14 : decode cX3_isUnsettled 14 = .ok (.ifCond .eq 13, 3) := by decide +kernel
theorem dX3_isUnsettled_17 : decode cX3_isUnsettled 17 = .ok (.aload_n 0, 1) := by decide +kernel
theorem dX3_isUnsettled_18 : decode cX3_isUnsettled 18 = .ok (.getfield 24, 3) := by decide +kernel
theorem dX3_isUnsettled_21 : decode cX3_isUnsettled 21 = .ok (.iload_n 1, 1) := by decide +kernel
theorem dX3_isUnsettled_22 : decode cX3_isUnsettled 22 = .ok (.iaload, 1) := by decide +kernel
theorem dX3_isUnsettled_23 : decode cX3_isUnsettled 23 = .ok (.iconst 1, 1) := by decide +kernel
theorem dX3_isUnsettled_24 : decode cX3_isUnsettled 24 = .ok (.if_icmp .ne 7, 3) := by decide +kernel
theorem dX3_isUnsettled_27 : decode cX3_isUnsettled 27 = .ok (.iconst 1, 1) := by decide +kernel
theorem dX3_isUnsettled_28 : decode cX3_isUnsettled 28 = .ok (.goto 4, 3) := by decide +kernel
theorem dX3_isUnsettled_31 : decode cX3_isUnsettled 31 = .ok (.iconst 0, 1) := by decide +kernel
theorem dX3_isUnsettled_32 : decode cX3_isUnsettled 32 = .ok (.ireturn, 1) := by decide +kernel
theorem dX3_countOfMember_0 : decode cX3_countOfMember 0 = .ok (.iconst 0, 1) := by decide +kernel
theorem dX3_countOfMember_1 : decode cX3_countOfMember 1 = .ok (.istore_n 2, 1) := by decide +kernel
theorem dX3_countOfMember_2 : decode cX3_countOfMember 2 = .ok (.iconst 0, 1) := by decide +kernel
theorem dX3_countOfMember_3 : decode cX3_countOfMember 3 = .ok (.istore_n 3, 1) := by decide +kernel
theorem dX3_countOfMember_4 : decode cX3_countOfMember 4 = .ok (.iload_n 3, 1) := by decide +kernel
theorem dX3_countOfMember_5 : decode cX3_countOfMember 5 = .ok (.bipush 20, 2) := by decide +kernel
theorem dX3_countOfMember_7 : decode cX3_countOfMember 7 = .ok (.if_icmp .ge 30, 3) := by decide +kernel
theorem dX3_countOfMember_10 : decode cX3_countOfMember 10 = .ok (.aload_n 0, 1) := by decide +kernel
theorem dX3_countOfMember_11 : decode cX3_countOfMember 11 = .ok (.iload_n 3, 1) := by decide +kernel
theorem dX3_countOfMember_12 : decode cX3_countOfMember 12 = .ok (.invokevirtual 37, 3) := by decide +kernel
theorem dX3_countOfMember_15 : decode cX3_countOfMember 15 = .ok (.ifCond .eq 16, 3) := by decide +kernel
theorem dX3_countOfMember_18 : decode cX3_countOfMember 18 = .ok (.aload_n 0, 1) := by decide +kernel
theorem dX3_countOfMember_19 : decode cX3_countOfMember 19 = .ok (.getfield 9, 3) := by decide +kernel
theorem dX3_countOfMember_22 : decode cX3_countOfMember 22 = .ok (.iload_n 3, 1) := by decide +kernel
theorem dX3_countOfMember_23 : decode cX3_countOfMember 23 = .ok (.iaload, 1) := by decide +kernel
theorem dX3_countOfMember_24 : decode cX3_countOfMember 24 = .ok (.iload_n 1, 1) := by decide +kernel
theorem dX3_countOfMember_25 : decode cX3_countOfMember 25 = .ok (.if_icmp .ne 6, 3) := by decide +kernel
theorem dX3_countOfMember_28 : decode cX3_countOfMember 28 = .ok (.iinc 2 1, 3) := by decide +kernel
theorem dX3_countOfMember_31 : decode cX3_countOfMember 31 = .ok (.iinc 3 1, 3) := by decide +kernel
theorem dX3_countOfMember_34 : decode cX3_countOfMember 34 = .ok (.goto (-30), 3) := by decide +kernel
theorem dX3_countOfMember_37 : decode cX3_countOfMember 37 = .ok (.iload_n 2, 1) := by decide +kernel
theorem dX3_countOfMember_38 : decode cX3_countOfMember 38 = .ok (.ireturn, 1) := by decide +kernel
theorem dX3_countOfMemberAhead_0 : decode cX3_countOfMemberAhead 0 = .ok (.iconst 0, 1) := by decide +kernel
theorem dX3_countOfMemberAhead_1 : decode cX3_countOfMemberAhead 1 = .ok (.istore_n 2, 1) := by decide +kernel
theorem dX3_countOfMemberAhead_2 : decode cX3_countOfMemberAhead 2 = .ok (.iconst 0, 1) := by decide +kernel
theorem dX3_countOfMemberAhead_3 : decode cX3_countOfMemberAhead 3 = .ok (.istore_n 3, 1) := by decide +kernel
theorem dX3_countOfMemberAhead_4 : decode cX3_countOfMemberAhead 4 = .ok (.iload_n 3, 1) := by decide +kernel
theorem dX3_countOfMemberAhead_5 : decode cX3_countOfMemberAhead 5 = .ok (.bipush 20, 2) := by decide +kernel
theorem dX3_countOfMemberAhead_7 : decode cX3_countOfMemberAhead 7 = .ok (.if_icmp .ge 40, 3) := by decide +kernel
theorem dX3_countOfMemberAhead_10 : decode cX3_countOfMemberAhead 10 = .ok (.aload_n 0, 1) := by decide +kernel
theorem dX3_countOfMemberAhead_11 : decode cX3_countOfMemberAhead 11 = .ok (.iload_n 3, 1) := by decide +kernel
theorem dX3_countOfMemberAhead_12 : decode cX3_countOfMemberAhead 12 = .ok (.invokevirtual 37, 3) := by decide +kernel
theorem dX3_countOfMemberAhead_15 : decode cX3_countOfMemberAhead 15 = .ok (.ifCond .eq 26, 3) := by decide +kernel
theorem dX3_countOfMemberAhead_18 : decode cX3_countOfMemberAhead 18 = .ok (.aload_n 0, 1) := by decide +kernel
theorem dX3_countOfMemberAhead_19 : decode cX3_countOfMemberAhead 19 = .ok (.getfield 9, 3) := by decide +kernel
theorem dX3_countOfMemberAhead_22 : decode cX3_countOfMemberAhead 22 = .ok (.iload_n 3, 1) := by decide +kernel
theorem dX3_countOfMemberAhead_23 : decode cX3_countOfMemberAhead 23 = .ok (.iaload, 1) := by decide +kernel
theorem dX3_countOfMemberAhead_24 : decode cX3_countOfMemberAhead 24 = .ok (.iload_n 1, 1) := by decide +kernel
theorem dX3_countOfMemberAhead_25 : decode cX3_countOfMemberAhead 25 = .ok (.if_icmp .ne 16, 3) := by decide +kernel
theorem dX3_countOfMemberAhead_28 : decode cX3_countOfMemberAhead 28 = .ok (.aload_n 0, 1) := by decide +kernel
theorem dX3_countOfMemberAhead_29 : decode cX3_countOfMemberAhead 29 = .ok (.getfield 24, 3) := by decide +kernel
theorem dX3_countOfMemberAhead_32 : decode cX3_countOfMemberAhead 32 = .ok (.iload_n 3, 1) := by decide +kernel
theorem dX3_countOfMemberAhead_33 : decode cX3_countOfMemberAhead 33 = .ok (.iaload, 1) := by decide +kernel
theorem dX3_countOfMemberAhead_34 : decode cX3_countOfMemberAhead 34 = .ok (.iconst 1, 1) := by decide +kernel
theorem dX3_countOfMemberAhead_35 : decode cX3_countOfMemberAhead 35 = .ok (.if_icmp .ne 6, 3) := by decide +kernel
theorem dX3_countOfMemberAhead_38 : decode cX3_countOfMemberAhead 38 = .ok (.iinc 2 1, 3) := by decide +kernel
theorem dX3_countOfMemberAhead_41 : decode cX3_countOfMemberAhead 41 = .ok (.iinc 3 1, 3) := by decide +kernel
theorem dX3_countOfMemberAhead_44 : decode cX3_countOfMemberAhead 44 = .ok (.goto (-40), 3) := by decide +kernel
theorem dX3_countOfMemberAhead_47 : decode cX3_countOfMemberAhead 47 = .ok (.iload_n 2, 1) := by decide +kernel
theorem dX3_countOfMemberAhead_48 : decode cX3_countOfMemberAhead 48 = .ok (.ireturn, 1) := by decide +kernel
theorem dX3_countOfClientUnsettled_0 : decode cX3_countOfClientUnsettled 0 = .ok (.iconst 0, 1) := by decide +kernel
theorem dX3_countOfClientUnsettled_1 : decode cX3_countOfClientUnsettled 1 = .ok (.istore_n 2, 1) := by decide +kernel
theorem dX3_countOfClientUnsettled_2 : decode cX3_countOfClientUnsettled 2 = .ok (.iconst 0, 1) := by decide +kernel
theorem dX3_countOfClientUnsettled_3 : decode cX3_countOfClientUnsettled 3 = .ok (.istore_n 3, 1) := by decide +kernel
theorem dX3_countOfClientUnsettled_4 : decode cX3_countOfClientUnsettled 4 = .ok (.iload_n 3, 1) := by decide +kernel
theorem dX3_countOfClientUnsettled_5 : decode cX3_countOfClientUnsettled 5 = .ok (.bipush 20, 2) := by decide +kernel
theorem dX3_countOfClientUnsettled_7 : decode cX3_countOfClientUnsettled 7 = .ok (.if_icmp .ge 30, 3) := by decide +kernel
theorem dX3_countOfClientUnsettled_10 : decode cX3_countOfClientUnsettled 10 = .ok (.aload_n 0, 1) := by decide +kernel
theorem dX3_countOfClientUnsettled_11 : decode cX3_countOfClientUnsettled 11 = .ok (.iload_n 3, 1) := by decide +kernel
theorem dX3_countOfClientUnsettled_12 : decode cX3_countOfClientUnsettled 12 = .ok (.invokevirtual 41, 3) := by decide +kernel
theorem dX3_countOfClientUnsettled_15 : decode cX3_countOfClientUnsettled 15 = .ok (.ifCond .eq 16, 3) := by decide +kernel
theorem dX3_countOfClientUnsettled_18 : decode cX3_countOfClientUnsettled 18 = .ok (.aload_n 0, 1) := by decide +kernel
theorem dX3_countOfClientUnsettled_19 : decode cX3_countOfClientUnsettled 19 = .ok (.getfield 15, 3) := by decide +kernel
theorem dX3_countOfClientUnsettled_22 : decode cX3_countOfClientUnsettled 22 = .ok (.iload_n 3, 1) := by decide +kernel
theorem dX3_countOfClientUnsettled_23 : decode cX3_countOfClientUnsettled 23 = .ok (.iaload, 1) := by decide +kernel
theorem dX3_countOfClientUnsettled_24 : decode cX3_countOfClientUnsettled 24 = .ok (.iload_n 1, 1) := by decide +kernel
theorem dX3_countOfClientUnsettled_25 : decode cX3_countOfClientUnsettled 25 = .ok (.if_icmp .ne 6, 3) := by decide +kernel
theorem dX3_countOfClientUnsettled_28 : decode cX3_countOfClientUnsettled 28 = .ok (.iinc 2 1, 3) := by decide +kernel
theorem dX3_countOfClientUnsettled_31 : decode cX3_countOfClientUnsettled 31 = .ok (.iinc 3 1, 3) := by decide +kernel
theorem dX3_countOfClientUnsettled_34 : decode cX3_countOfClientUnsettled 34 = .ok (.goto (-30), 3) := by decide +kernel
theorem dX3_countOfClientUnsettled_37 : decode cX3_countOfClientUnsettled 37 = .ok (.iload_n 2, 1) := by decide +kernel
theorem dX3_countOfClientUnsettled_38 : decode cX3_countOfClientUnsettled 38 = .ok (.ireturn, 1) := by decide +kernel
theorem dX3_countOfState_0 : decode cX3_countOfState 0 = .ok (.iconst 0, 1) := by decide +kernel
theorem dX3_countOfState_1 : decode cX3_countOfState 1 = .ok (.istore_n 2, 1) := by decide +kernel
theorem dX3_countOfState_2 : decode cX3_countOfState 2 = .ok (.iconst 0, 1) := by decide +kernel
theorem dX3_countOfState_3 : decode cX3_countOfState 3 = .ok (.istore_n 3, 1) := by decide +kernel
theorem dX3_countOfState_4 : decode cX3_countOfState 4 = .ok (.iload_n 3, 1) := by decide +kernel
theorem dX3_countOfState_5 : decode cX3_countOfState 5 = .ok (.bipush 20, 2) := by decide +kernel
theorem dX3_countOfState_7 : decode cX3_countOfState 7 = .ok (.if_icmp .ge 30, 3) := by decide +kernel
theorem dX3_countOfState_10 : decode cX3_countOfState 10 = .ok (.aload_n 0, 1) := by decide +kernel
theorem dX3_countOfState_11 : decode cX3_countOfState 11 = .ok (.iload_n 3, 1) := by decide +kernel
theorem dX3_countOfState_12 : decode cX3_countOfState 12 = .ok (.invokevirtual 37, 3) := by decide +kernel
theorem dX3_countOfState_15 : decode cX3_countOfState 15 = .ok (.ifCond .eq 16, 3) := by decide +kernel
theorem dX3_countOfState_18 : decode cX3_countOfState 18 = .ok (.aload_n 0, 1) := by decide +kernel
theorem dX3_countOfState_19 : decode cX3_countOfState 19 = .ok (.getfield 24, 3) := by decide +kernel
theorem dX3_countOfState_22 : decode cX3_countOfState 22 = .ok (.iload_n 3, 1) := by decide +kernel
theorem dX3_countOfState_23 : decode cX3_countOfState 23 = .ok (.iaload, 1) := by decide +kernel
theorem dX3_countOfState_24 : decode cX3_countOfState 24 = .ok (.iload_n 1, 1) := by decide +kernel
theorem dX3_countOfState_25 : decode cX3_countOfState 25 = .ok (.if_icmp .ne 6, 3) := by decide +kernel
theorem dX3_countOfState_28 : decode cX3_countOfState 28 = .ok (.iinc 2 1, 3) := by decide +kernel
theorem dX3_countOfState_31 : decode cX3_countOfState 31 = .ok (.iinc 3 1, 3) := by decide +kernel
theorem dX3_countOfState_34 : decode cX3_countOfState 34 = .ok (.goto (-30), 3) := by decide +kernel
theorem dX3_countOfState_37 : decode cX3_countOfState 37 = .ok (.iload_n 2, 1) := by decide +kernel
theorem dX3_countOfState_38 : decode cX3_countOfState 38 = .ok (.ireturn, 1) := by decide +kernel
theorem dX3_advancesOut_0 : decode cX3_advancesOut 0 = .ok (.iconst 0, 1) := by decide +kernel
theorem dX3_advancesOut_1 : decode cX3_advancesOut 1 = .ok (.istore_n 1, 1) := by decide +kernel
theorem dX3_advancesOut_2 : decode cX3_advancesOut 2 = .ok (.iconst 0, 1) := by decide +kernel
theorem dX3_advancesOut_3 : decode cX3_advancesOut 3 = .ok (.istore_n 2, 1) := by decide +kernel
theorem dX3_advancesOut_4 : decode cX3_advancesOut 4 = .ok (.iload_n 2, 1) := by decide +kernel
theorem dX3_advancesOut_5 : decode cX3_advancesOut 5 = .ok (.bipush 20, 2) := by decide +kernel
theorem dX3_advancesOut_7 : decode cX3_advancesOut 7 = .ok (.if_icmp .ge 36, 3) := by decide +kernel
theorem dX3_advancesOut_10 : decode cX3_advancesOut 10 = .ok (.aload_n 0, 1) := by decide +kernel
theorem dX3_advancesOut_11 : decode cX3_advancesOut 11 = .ok (.iload_n 2, 1) := by decide +kernel
theorem dX3_advancesOut_12 : decode cX3_advancesOut 12 = .ok (.invokevirtual 37, 3) := by decide +kernel
theorem dX3_advancesOut_15 : decode cX3_advancesOut 15 = .ok (.ifCond .eq 22, 3) := by decide +kernel
theorem dX3_advancesOut_18 : decode cX3_advancesOut 18 = .ok (.aload_n 0, 1) := by decide +kernel
theorem dX3_advancesOut_19 : decode cX3_advancesOut 19 = .ok (.getfield 24, 3) := by decide +kernel
theorem dX3_advancesOut_22 : decode cX3_advancesOut 22 = .ok (.iload_n 2, 1) := by decide +kernel
theorem dX3_advancesOut_23 : decode cX3_advancesOut 23 = .ok (.iaload, 1) := by decide +kernel
theorem dX3_advancesOut_24 : decode cX3_advancesOut 24 = .ok (.iconst 1, 1) := by decide +kernel
theorem dX3_advancesOut_25 : decode cX3_advancesOut 25 = .ok (.if_icmp .ne 12, 3) := by decide +kernel
theorem dX3_advancesOut_28 : decode cX3_advancesOut 28 = .ok (.iload_n 1, 1) := by decide +kernel
theorem dX3_advancesOut_29 : decode cX3_advancesOut 29 = .ok (.aload_n 0, 1) := by decide +kernel
theorem dX3_advancesOut_30 : decode cX3_advancesOut 30 = .ok (.getfield 30, 3) := by decide +kernel
theorem dX3_advancesOut_33 : decode cX3_advancesOut 33 = .ok (.iload_n 2, 1) := by decide +kernel
theorem dX3_advancesOut_34 : decode cX3_advancesOut 34 = .ok (.iaload, 1) := by decide +kernel
theorem dX3_advancesOut_35 : decode cX3_advancesOut 35 = .ok (.iadd, 1) := by decide +kernel
theorem dX3_advancesOut_36 : decode cX3_advancesOut 36 = .ok (.istore_n 1, 1) := by decide +kernel
theorem dX3_advancesOut_37 : decode cX3_advancesOut 37 = .ok (.iinc 2 1, 3) := by decide +kernel
theorem dX3_advancesOut_40 : decode cX3_advancesOut 40 = .ok (.goto (-36), 3) := by decide +kernel
theorem dX3_advancesOut_43 : decode cX3_advancesOut 43 = .ok (.iload_n 1, 1) := by decide +kernel
theorem dX3_advancesOut_44 : decode cX3_advancesOut 44 = .ok (.ireturn, 1) := by decide +kernel
theorem dX3_copyFrom_0 : decode cX3_copyFrom 0 = .ok (.aload_n 1, 1) := by decide +kernel
theorem dX3_copyFrom_1 : decode cX3_copyFrom 1 = .ok (.getfield 9, 3) := by decide +kernel
theorem dX3_copyFrom_4 : decode cX3_copyFrom 4 = .ok (.aload_n 0, 1) := by decide +kernel
theorem dX3_copyFrom_5 : decode cX3_copyFrom 5 = .ok (.getfield 9, 3) := by decide +kernel
theorem dX3_copyFrom_8 : decode cX3_copyFrom 8 = .ok (.invokestatic 44, 3) := by decide +kernel
theorem dX3_copyFrom_11 : decode cX3_copyFrom 11 = .ok (.aload_n 1, 1) := by decide +kernel
theorem dX3_copyFrom_12 : decode cX3_copyFrom 12 = .ok (.getfield 15, 3) := by decide +kernel
theorem dX3_copyFrom_15 : decode cX3_copyFrom 15 = .ok (.aload_n 0, 1) := by decide +kernel
theorem dX3_copyFrom_16 : decode cX3_copyFrom 16 = .ok (.getfield 15, 3) := by decide +kernel
theorem dX3_copyFrom_19 : decode cX3_copyFrom 19 = .ok (.invokestatic 44, 3) := by decide +kernel
theorem dX3_copyFrom_22 : decode cX3_copyFrom 22 = .ok (.aload_n 1, 1) := by decide +kernel
theorem dX3_copyFrom_23 : decode cX3_copyFrom 23 = .ok (.getfield 18, 3) := by decide +kernel
theorem dX3_copyFrom_26 : decode cX3_copyFrom 26 = .ok (.aload_n 0, 1) := by decide +kernel
theorem dX3_copyFrom_27 : decode cX3_copyFrom 27 = .ok (.getfield 18, 3) := by decide +kernel
theorem dX3_copyFrom_30 : decode cX3_copyFrom 30 = .ok (.invokestatic 44, 3) := by decide +kernel
theorem dX3_copyFrom_33 : decode cX3_copyFrom 33 = .ok (.aload_n 1, 1) := by decide +kernel
theorem dX3_copyFrom_34 : decode cX3_copyFrom 34 = .ok (.getfield 21, 3) := by decide +kernel
theorem dX3_copyFrom_37 : decode cX3_copyFrom 37 = .ok (.aload_n 0, 1) := by decide +kernel
theorem dX3_copyFrom_38 : decode cX3_copyFrom 38 = .ok (.getfield 21, 3) := by decide +kernel
theorem dX3_copyFrom_41 : decode cX3_copyFrom 41 = .ok (.invokestatic 44, 3) := by decide +kernel
theorem dX3_copyFrom_44 : decode cX3_copyFrom 44 = .ok (.aload_n 1, 1) := by decide +kernel
theorem dX3_copyFrom_45 : decode cX3_copyFrom 45 = .ok (.getfield 24, 3) := by decide +kernel
theorem dX3_copyFrom_48 : decode cX3_copyFrom 48 = .ok (.aload_n 0, 1) := by decide +kernel
theorem dX3_copyFrom_49 : decode cX3_copyFrom 49 = .ok (.getfield 24, 3) := by decide +kernel
theorem dX3_copyFrom_52 : decode cX3_copyFrom 52 = .ok (.invokestatic 44, 3) := by decide +kernel
theorem dX3_copyFrom_55 : decode cX3_copyFrom 55 = .ok (.aload_n 1, 1) := by decide +kernel
theorem dX3_copyFrom_56 : decode cX3_copyFrom 56 = .ok (.getfield 27, 3) := by decide +kernel
theorem dX3_copyFrom_59 : decode cX3_copyFrom 59 = .ok (.aload_n 0, 1) := by decide +kernel
theorem dX3_copyFrom_60 : decode cX3_copyFrom 60 = .ok (.getfield 27, 3) := by decide +kernel
theorem dX3_copyFrom_63 : decode cX3_copyFrom 63 = .ok (.invokestatic 44, 3) := by decide +kernel
theorem dX3_copyFrom_66 : decode cX3_copyFrom 66 = .ok (.aload_n 1, 1) := by decide +kernel
theorem dX3_copyFrom_67 : decode cX3_copyFrom 67 = .ok (.getfield 30, 3) := by decide +kernel
theorem dX3_copyFrom_70 : decode cX3_copyFrom 70 = .ok (.aload_n 0, 1) := by decide +kernel
theorem dX3_copyFrom_71 : decode cX3_copyFrom 71 = .ok (.getfield 30, 3) := by decide +kernel
theorem dX3_copyFrom_74 : decode cX3_copyFrom 74 = .ok (.invokestatic 44, 3) := by decide +kernel
theorem dX3_copyFrom_77 : decode cX3_copyFrom 77 = .ok (.aload_n 0, 1) := by decide +kernel
theorem dX3_copyFrom_78 : decode cX3_copyFrom 78 = .ok (.aload_n 1, 1) := by decide +kernel
theorem dX3_copyFrom_79 : decode cX3_copyFrom 79 = .ok (.getfield 33, 3) := by decide +kernel
theorem dX3_copyFrom_82 : decode cX3_copyFrom 82 = .ok (.putfield 33, 3) := by decide +kernel
theorem dX3_copyFrom_85 : decode cX3_copyFrom 85 = .ok (.return_, 1) := by decide +kernel
theorem dX4_init_0 : decode cX4_init 0 = .ok (.aload_n 0, 1) := by decide +kernel
theorem dX4_init_1 : decode cX4_init 1 = .ok (.invokespecial 3, 3) := by decide +kernel
theorem dX4_init_4 : decode cX4_init 4 = .ok (.aload_n 0, 1) := by decide +kernel
theorem dX4_init_5 : decode cX4_init 5 = .ok (.bipush 8, 2) := by decide +kernel
theorem dX4_init_7 : decode cX4_init 7 = .ok (.newarray .int, 2) := by decide +kernel
theorem dX4_init_9 : decode cX4_init 9 = .ok (.putfield 9, 3) := by decide +kernel
theorem dX4_init_12 : decode cX4_init 12 = .ok (.aload_n 0, 1) := by decide +kernel
theorem dX4_init_13 : decode cX4_init 13 = .ok (.bipush 8, 2) := by decide +kernel
theorem dX4_init_15 : decode cX4_init 15 = .ok (.newarray .int, 2) := by decide +kernel
theorem dX4_init_17 : decode cX4_init 17 = .ok (.putfield 15, 3) := by decide +kernel
theorem dX4_init_20 : decode cX4_init 20 = .ok (.aload_n 0, 1) := by decide +kernel
theorem dX4_init_21 : decode cX4_init 21 = .ok (.bipush 8, 2) := by decide +kernel
theorem dX4_init_23 : decode cX4_init 23 = .ok (.newarray .int, 2) := by decide +kernel
theorem dX4_init_25 : decode cX4_init 25 = .ok (.putfield 18, 3) := by decide +kernel
theorem dX4_init_28 : decode cX4_init 28 = .ok (.aload_n 0, 1) := by decide +kernel
theorem dX4_init_29 : decode cX4_init 29 = .ok (.bipush 8, 2) := by decide +kernel
theorem dX4_init_31 : decode cX4_init 31 = .ok (.newarray .int, 2) := by decide +kernel
theorem dX4_init_33 : decode cX4_init 33 = .ok (.putfield 21, 3) := by decide +kernel
theorem dX4_init_36 : decode cX4_init 36 = .ok (.return_, 1) := by decide +kernel
theorem dX4_has_0 : decode cX4_has 0 = .ok (.iload_n 1, 1) := by decide +kernel
theorem dX4_has_1 : decode cX4_has 1 = .ok (.ifCond .lt 21, 3) := by decide +kernel
theorem dX4_has_4 : decode cX4_has 4 = .ok (.iload_n 1, 1) := by decide +kernel
theorem dX4_has_5 : decode cX4_has 5 = .ok (.aload_n 0, 1) := by decide +kernel
theorem dX4_has_6 : decode cX4_has 6 = .ok (.getfield 24, 3) := by decide +kernel
theorem dX4_has_9 : decode cX4_has 9 = .ok (.if_icmp .ge 13, 3) := by decide +kernel
theorem dX4_has_12 : decode cX4_has 12 = .ok (.iload_n 1, 1) := by decide +kernel
theorem dX4_has_13 : decode cX4_has 13 = .ok (.bipush 8, 2) := by decide +kernel
theorem dX4_has_15 : decode cX4_has 15 = .ok (.if_icmp .ge 7, 3) := by decide +kernel
theorem dX4_has_18 : decode cX4_has 18 = .ok (.iconst 1, 1) := by decide +kernel
theorem dX4_has_19 : decode cX4_has 19 = .ok (.goto 4, 3) := by decide +kernel
theorem dX4_has_22 : decode cX4_has 22 = .ok (.iconst 0, 1) := by decide +kernel
theorem dX4_has_23 : decode cX4_has 23 = .ok (.ireturn, 1) := by decide +kernel
theorem dX4_append_0 : decode cX4_append 0 = .ok (.aload_n 0, 1) := by decide +kernel
theorem dX4_append_1 : decode cX4_append 1 = .ok (.getfield 24, 3) := by decide +kernel
theorem dX4_append_4 : decode cX4_append 4 = .ok (.ifCond .lt 12, 3) := by decide +kernel
theorem dX4_append_7 : decode cX4_append 7 = .ok (.aload_n 0, 1) := by decide +kernel
theorem dX4_append_8 : decode cX4_append 8 = .ok (.getfield 24, 3) := by decide +kernel
theorem dX4_append_11 : decode cX4_append 11 = .ok (.bipush 8, 2) := by decide +kernel
theorem dX4_append_13 : decode cX4_append 13 = .ok (.if_icmp .lt 6, 3) := by decide +kernel
theorem dX4_append_16 : decode cX4_append 16 = .ok (.bipush (-3), 2) := by decide +kernel
theorem dX4_append_18 : decode cX4_append 18 = .ok (.ireturn, 1) := by decide +kernel
theorem dX4_append_19 : decode cX4_append 19 = .ok (.aload_n 0, 1) := by decide +kernel
theorem dX4_append_20 : decode cX4_append 20 = .ok (.getfield 9, 3) := by decide +kernel
theorem dX4_append_23 : decode cX4_append 23 = .ok (.aload_n 0, 1) := by decide +kernel
theorem dX4_append_24 : decode cX4_append 24 = .ok (.getfield 24, 3) := by decide +kernel
theorem dX4_append_27 : decode cX4_append 27 = .ok (.iload_n 1, 1) := by decide +kernel
theorem dX4_append_28 : decode cX4_append 28 = .ok (.iastore, 1) := by decide +kernel
theorem dX4_append_29 : decode cX4_append 29 = .ok (.aload_n 0, 1) := by decide +kernel
theorem dX4_append_30 : decode cX4_append 30 = .ok (.getfield 15, 3) := by decide +kernel
theorem dX4_append_33 : decode cX4_append 33 = .ok (.aload_n 0, 1) := by decide +kernel
theorem dX4_append_34 : decode cX4_append 34 = .ok (.getfield 24, 3) := by decide +kernel
theorem dX4_append_37 : decode cX4_append 37 = .ok (.iconst 0, 1) := by decide +kernel
theorem dX4_append_38 : decode cX4_append 38 = .ok (.iastore, 1) := by decide +kernel
theorem dX4_append_39 : decode cX4_append 39 = .ok (.aload_n 0, 1) := by decide +kernel
theorem dX4_append_40 : decode cX4_append 40 = .ok (.getfield 18, 3) := by decide +kernel
theorem dX4_append_43 : decode cX4_append 43 = .ok (.aload_n 0, 1) := by decide +kernel
theorem dX4_append_44 : decode cX4_append 44 = .ok (.getfield 24, 3) := by decide +kernel
theorem dX4_append_47 : decode cX4_append 47 = .ok (.iconst 0, 1) := by decide +kernel
theorem dX4_append_48 : decode cX4_append 48 = .ok (.iastore, 1) := by decide +kernel
theorem dX4_append_49 : decode cX4_append 49 = .ok (.aload_n 0, 1) := by decide +kernel
theorem dX4_append_50 : decode cX4_append 50 = .ok (.getfield 21, 3) := by decide +kernel
theorem dX4_append_53 : decode cX4_append 53 = .ok (.aload_n 0, 1) := by decide +kernel
theorem dX4_append_54 : decode cX4_append 54 = .ok (.getfield 24, 3) := by decide +kernel
theorem dX4_append_57 : decode cX4_append 57 = .ok (.iconst 0, 1) := by decide +kernel
theorem dX4_append_58 : decode cX4_append 58 = .ok (.iastore, 1) := by decide +kernel
theorem dX4_append_59 : decode cX4_append 59 = .ok (.aload_n 0, 1) := by decide +kernel
theorem dX4_append_60 : decode cX4_append 60 = .ok (.dup, 1) := by decide +kernel
theorem dX4_append_61 : decode cX4_append 61 = .ok (.getfield 24, 3) := by decide +kernel
theorem dX4_append_64 : decode cX4_append 64 = .ok (.iconst 1, 1) := by decide +kernel
theorem dX4_append_65 : decode cX4_append 65 = .ok (.iadd, 1) := by decide +kernel
theorem dX4_append_66 : decode cX4_append 66 = .ok (.putfield 24, 3) := by decide +kernel
theorem dX4_append_69 : decode cX4_append 69 = .ok (.aload_n 0, 1) := by decide +kernel
theorem dX4_append_70 : decode cX4_append 70 = .ok (.getfield 24, 3) := by decide +kernel
theorem dX4_append_73 : decode cX4_append 73 = .ok (.iconst 1, 1) := by decide +kernel
theorem dX4_append_74 : decode cX4_append 74 = .ok (.isub, 1) := by decide +kernel
theorem dX4_append_75 : decode cX4_append 75 = .ok (.ireturn, 1) := by decide +kernel
theorem dX4_intoPurse_0 : decode cX4_intoPurse 0 = .ok (.aload_n 0, 1) := by decide +kernel
theorem dX4_intoPurse_1 : decode cX4_intoPurse 1 = .ok (.iload_n 1, 1) := by decide +kernel
theorem dX4_intoPurse_2 : decode cX4_intoPurse 2 = .ok (.invokevirtual 28, 3) := by decide +kernel
theorem dX4_intoPurse_5 : decode cX4_intoPurse 5 = .ok (.ifCond .eq 13, 3) := by decide +kernel
theorem dX4_intoPurse_8 : decode cX4_intoPurse 8 = .ok (.aload_n 0, 1) := by decide +kernel
theorem dX4_intoPurse_9 : decode cX4_intoPurse 9 = .ok (.getfield 18, 3) := by decide +kernel
theorem dX4_intoPurse_12 : decode cX4_intoPurse 12 = .ok (.iload_n 1, 1) := by decide +kernel
theorem dX4_intoPurse_13 : decode cX4_intoPurse 13 = .ok (.dup2, 1) := by decide +kernel
theorem dX4_intoPurse_14 : decode cX4_intoPurse 14 = .ok (.iaload, 1) := by decide +kernel
theorem dX4_intoPurse_15 : decode cX4_intoPurse 15 = .ok (.iload_n 2, 1) := by decide +kernel
theorem dX4_intoPurse_16 : decode cX4_intoPurse 16 = .ok (.iadd, 1) := by decide +kernel
theorem dX4_intoPurse_17 : decode cX4_intoPurse 17 = .ok (.iastore, 1) := by decide +kernel
theorem dX4_intoPurse_18 : decode cX4_intoPurse 18 = .ok (.return_, 1) := by decide +kernel
theorem dX4_bear_0 : decode cX4_bear 0 = .ok (.aload_n 0, 1) := by decide +kernel
theorem dX4_bear_1 : decode cX4_bear 1 = .ok (.iload_n 1, 1) := by decide +kernel
theorem dX4_bear_2 : decode cX4_bear 2 = .ok (.invokevirtual 28, 3) := by decide +kernel
theorem dX4_bear_5 : decode cX4_bear 5 = .ok (.ifCond .ne 4, 3) := by decide +kernel
theorem dX4_bear_8 : decode cX4_bear 8 = .ok (.return_, 1) := by decide +kernel
theorem dX4_bear_9 : decode cX4_bear 9 = .ok (.aload_n 0, 1) := by decide +kernel
theorem dX4_bear_10 : decode cX4_bear 10 = .ok (.getfield 18, 3) := by decide +kernel
theorem dX4_bear_13 : decode cX4_bear 13 = .ok (.iload_n 1, 1) := by decide +kernel
theorem dX4_bear_14 : decode cX4_bear 14 = .ok (.dup2, 1) := by decide +kernel
theorem dX4_bear_15 : decode cX4_bear 15 = .ok (.iaload, 1) := by decide +kernel
theorem dX4_bear_16 : decode cX4_bear 16 = .ok (.iload_n 2, 1) := by decide +kernel
theorem dX4_bear_17 : decode cX4_bear 17 = .ok (.isub, 1) := by decide +kernel
theorem dX4_bear_18 : decode cX4_bear 18 = .ok (.iastore, 1) := by decide +kernel
theorem dX4_bear_19 : decode cX4_bear 19 = .ok (.aload_n 0, 1) := by decide +kernel
theorem dX4_bear_20 : decode cX4_bear 20 = .ok (.getfield 21, 3) := by decide +kernel
theorem dX4_bear_23 : decode cX4_bear 23 = .ok (.iload_n 1, 1) := by decide +kernel
theorem dX4_bear_24 : decode cX4_bear 24 = .ok (.dup2, 1) := by decide +kernel
theorem dX4_bear_25 : decode cX4_bear 25 = .ok (.iaload, 1) := by decide +kernel
theorem dX4_bear_26 : decode cX4_bear 26 = .ok (.iload_n 2, 1) := by decide +kernel
theorem dX4_bear_27 : decode cX4_bear 27 = .ok (.iadd, 1) := by decide +kernel
theorem dX4_bear_28 : decode cX4_bear 28 = .ok (.iastore, 1) := by decide +kernel
theorem dX4_bear_29 : decode cX4_bear 29 = .ok (.return_, 1) := by decide +kernel
theorem dX4_allDues_0 : decode cX4_allDues 0 = .ok (.iconst 0, 1) := by decide +kernel
theorem dX4_allDues_1 : decode cX4_allDues 1 = .ok (.istore_n 1, 1) := by decide +kernel
theorem dX4_allDues_2 : decode cX4_allDues 2 = .ok (.iconst 0, 1) := by decide +kernel
theorem dX4_allDues_3 : decode cX4_allDues 3 = .ok (.istore_n 2, 1) := by decide +kernel
theorem dX4_allDues_4 : decode cX4_allDues 4 = .ok (.iload_n 2, 1) := by decide +kernel
theorem dX4_allDues_5 : decode cX4_allDues 5 = .ok (.bipush 8, 2) := by decide +kernel
theorem dX4_allDues_7 : decode cX4_allDues 7 = .ok (.if_icmp .ge 26, 3) := by decide +kernel
theorem dX4_allDues_10 : decode cX4_allDues 10 = .ok (.aload_n 0, 1) := by decide +kernel
theorem dX4_allDues_11 : decode cX4_allDues 11 = .ok (.iload_n 2, 1) := by decide +kernel
theorem dX4_allDues_12 : decode cX4_allDues 12 = .ok (.invokevirtual 28, 3) := by decide +kernel
theorem dX4_allDues_15 : decode cX4_allDues 15 = .ok (.ifCond .eq 12, 3) := by decide +kernel
theorem dX4_allDues_18 : decode cX4_allDues 18 = .ok (.iload_n 1, 1) := by decide +kernel
theorem dX4_allDues_19 : decode cX4_allDues 19 = .ok (.aload_n 0, 1) := by decide +kernel
theorem dX4_allDues_20 : decode cX4_allDues 20 = .ok (.getfield 15, 3) := by decide +kernel
theorem dX4_allDues_23 : decode cX4_allDues 23 = .ok (.iload_n 2, 1) := by decide +kernel
theorem dX4_allDues_24 : decode cX4_allDues 24 = .ok (.iaload, 1) := by decide +kernel
theorem dX4_allDues_25 : decode cX4_allDues 25 = .ok (.iadd, 1) := by decide +kernel
theorem dX4_allDues_26 : decode cX4_allDues 26 = .ok (.istore_n 1, 1) := by decide +kernel
theorem dX4_allDues_27 : decode cX4_allDues 27 = .ok (.iinc 2 1, 3) := by decide +kernel
theorem dX4_allDues_30 : decode cX4_allDues 30 = .ok (.goto (-26), 3) := by decide +kernel
theorem dX4_allDues_33 : decode cX4_allDues 33 = .ok (.iload_n 1, 1) := by decide +kernel
theorem dX4_allDues_34 : decode cX4_allDues 34 = .ok (.ireturn, 1) := by decide +kernel
theorem dX4_allWeights_0 : decode cX4_allWeights 0 = .ok (.iconst 0, 1) := by decide +kernel
theorem dX4_allWeights_1 : decode cX4_allWeights 1 = .ok (.istore_n 1, 1) := by decide +kernel
theorem dX4_allWeights_2 : decode cX4_allWeights 2 = .ok (.iconst 0, 1) := by decide +kernel
theorem dX4_allWeights_3 : decode cX4_allWeights 3 = .ok (.istore_n 2, 1) := by decide +kernel
theorem dX4_allWeights_4 : decode cX4_allWeights 4 = .ok (.iload_n 2, 1) := by decide +kernel
theorem dX4_allWeights_5 : decode cX4_allWeights 5 = .ok (.bipush 8, 2) := by decide +kernel
theorem dX4_allWeights_7 : decode cX4_allWeights 7 = .ok (.if_icmp .ge 26, 3) := by decide +kernel
theorem dX4_allWeights_10 : decode cX4_allWeights 10 = .ok (.aload_n 0, 1) := by decide +kernel
theorem dX4_allWeights_11 : decode cX4_allWeights 11 = .ok (.iload_n 2, 1) := by decide +kernel
theorem dX4_allWeights_12 : decode cX4_allWeights 12 = .ok (.invokevirtual 28, 3) := by decide +kernel
theorem dX4_allWeights_15 : decode cX4_allWeights 15 = .ok (.ifCond .eq 12, 3) := by decide +kernel
theorem dX4_allWeights_18 : decode cX4_allWeights 18 = .ok (.iload_n 1, 1) := by decide +kernel
theorem dX4_allWeights_19 : decode cX4_allWeights 19 = .ok (.aload_n 0, 1) := by decide +kernel
theorem dX4_allWeights_20 : decode cX4_allWeights 20 = .ok (.getfield 9, 3) := by decide +kernel
theorem dX4_allWeights_23 : decode cX4_allWeights 23 = .ok (.iload_n 2, 1) := by decide +kernel
theorem dX4_allWeights_24 : decode cX4_allWeights 24 = .ok (.iaload, 1) := by decide +kernel
theorem dX4_allWeights_25 : decode cX4_allWeights 25 = .ok (.iadd, 1) := by decide +kernel
theorem dX4_allWeights_26 : decode cX4_allWeights 26 = .ok (.istore_n 1, 1) := by decide +kernel
theorem dX4_allWeights_27 : decode cX4_allWeights 27 = .ok (.iinc 2 1, 3) := by decide +kernel
theorem dX4_allWeights_30 : decode cX4_allWeights 30 = .ok (.goto (-26), 3) := by decide +kernel
theorem dX4_allWeights_33 : decode cX4_allWeights 33 = .ok (.iload_n 1, 1) := by decide +kernel
theorem dX4_allWeights_34 : decode cX4_allWeights 34 = .ok (.ireturn, 1) := by decide +kernel
theorem dX4_copyFrom_0 : decode cX4_copyFrom 0 = .ok (.aload_n 1, 1) := by decide +kernel
theorem dX4_copyFrom_1 : decode cX4_copyFrom 1 = .ok (.getfield 9, 3) := by decide +kernel
theorem dX4_copyFrom_4 : decode cX4_copyFrom 4 = .ok (.aload_n 0, 1) := by decide +kernel
theorem dX4_copyFrom_5 : decode cX4_copyFrom 5 = .ok (.getfield 9, 3) := by decide +kernel
theorem dX4_copyFrom_8 : decode cX4_copyFrom 8 = .ok (.invokestatic 32, 3) := by decide +kernel
theorem dX4_copyFrom_11 : decode cX4_copyFrom 11 = .ok (.aload_n 1, 1) := by decide +kernel
theorem dX4_copyFrom_12 : decode cX4_copyFrom 12 = .ok (.getfield 15, 3) := by decide +kernel
theorem dX4_copyFrom_15 : decode cX4_copyFrom 15 = .ok (.aload_n 0, 1) := by decide +kernel
theorem dX4_copyFrom_16 : decode cX4_copyFrom 16 = .ok (.getfield 15, 3) := by decide +kernel
theorem dX4_copyFrom_19 : decode cX4_copyFrom 19 = .ok (.invokestatic 32, 3) := by decide +kernel
theorem dX4_copyFrom_22 : decode cX4_copyFrom 22 = .ok (.aload_n 1, 1) := by decide +kernel
theorem dX4_copyFrom_23 : decode cX4_copyFrom 23 = .ok (.getfield 18, 3) := by decide +kernel
theorem dX4_copyFrom_26 : decode cX4_copyFrom 26 = .ok (.aload_n 0, 1) := by decide +kernel
theorem dX4_copyFrom_27 : decode cX4_copyFrom 27 = .ok (.getfield 18, 3) := by decide +kernel
theorem dX4_copyFrom_30 : decode cX4_copyFrom 30 = .ok (.invokestatic 32, 3) := by decide +kernel
theorem dX4_copyFrom_33 : decode cX4_copyFrom 33 = .ok (.aload_n 1, 1) := by decide +kernel
theorem dX4_copyFrom_34 : decode cX4_copyFrom 34 = .ok (.getfield 21, 3) := by decide +kernel
theorem dX4_copyFrom_37 : decode cX4_copyFrom 37 = .ok (.aload_n 0, 1) := by decide +kernel
theorem dX4_copyFrom_38 : decode cX4_copyFrom 38 = .ok (.getfield 21, 3) := by decide +kernel
theorem dX4_copyFrom_41 : decode cX4_copyFrom 41 = .ok (.invokestatic 32, 3) := by decide +kernel
theorem dX4_copyFrom_44 : decode cX4_copyFrom 44 = .ok (.aload_n 0, 1) := by decide +kernel
theorem dX4_copyFrom_45 : decode cX4_copyFrom 45 = .ok (.aload_n 1, 1) := by decide +kernel
theorem dX4_copyFrom_46 : decode cX4_copyFrom 46 = .ok (.getfield 24, 3) := by decide +kernel
theorem dX4_copyFrom_49 : decode cX4_copyFrom 49 = .ok (.putfield 24, 3) := by decide +kernel
theorem dX4_copyFrom_52 : decode cX4_copyFrom 52 = .ok (.return_, 1) := by decide +kernel
theorem dX5_init_0 : decode cX5_init 0 = .ok (.aload_n 0, 1) := by decide +kernel
theorem dX5_init_1 : decode cX5_init 1 = .ok (.invokespecial 3, 3) := by decide +kernel
theorem dX5_init_4 : decode cX5_init 4 = .ok (.aload_n 0, 1) := by decide +kernel
theorem dX5_init_5 : decode cX5_init 5 = .ok (.bipush 20, 2) := by decide +kernel
theorem dX5_init_7 : decode cX5_init 7 = .ok (.newarray .int, 2) := by decide +kernel
theorem dX5_init_9 : decode cX5_init 9 = .ok (.putfield 9, 3) := by decide +kernel
theorem dX5_init_12 : decode cX5_init 12 = .ok (.aload_n 0, 1) := by decide +kernel
theorem dX5_init_13 : decode cX5_init 13 = .ok (.bipush 20, 2) := by decide +kernel
theorem dX5_init_15 : decode cX5_init 15 = .ok (.newarray .float, 2) := by decide +kernel
theorem dX5_init_17 : decode cX5_init 17 = .ok (.putfield 15, 3) := by decide +kernel
theorem dX5_init_20 : decode cX5_init 20 = .ok (.return_, 1) := by decide +kernel
theorem dX5_insert_0 : decode cX5_insert 0 = .ok (.aload_n 0, 1) := by decide +kernel
theorem dX5_insert_1 : decode cX5_insert 1 = .ok (.getfield 19, 3) := by decide +kernel
theorem dX5_insert_4 : decode cX5_insert 4 = .ok (.ifCond .lt 12, 3) := by decide +kernel
theorem dX5_insert_7 : decode cX5_insert 7 = .ok (.aload_n 0, 1) := by decide +kernel
theorem dX5_insert_8 : decode cX5_insert 8 = .ok (.getfield 19, 3) := by decide +kernel
theorem dX5_insert_11 : decode cX5_insert 11 = .ok (.bipush 20, 2) := by decide +kernel
theorem dX5_insert_13 : decode cX5_insert 13 = .ok (.if_icmp .lt 4, 3) := by decide +kernel
theorem dX5_insert_16 : decode cX5_insert 16 = .ok (.return_, 1) := by decide +kernel
theorem dX5_insert_17 : decode cX5_insert 17 = .ok (.aload_n 0, 1) := by decide +kernel
theorem dX5_insert_18 : decode cX5_insert 18 = .ok (.getfield 19, 3) := by decide +kernel
theorem dX5_insert_21 : decode cX5_insert 21 = .ok (.istore_n 3, 1) := by decide +kernel
theorem dX5_insert_22 : decode cX5_insert 22 = .ok (.iload_n 3, 1) := by decide +kernel
theorem dX5_insert_23 : decode cX5_insert 23 = .ok (.ifCond .le 50, 3) := by decide +kernel
theorem dX5_insert_26 : decode cX5_insert 26 = .ok (.aload_n 0, 1) := by decide +kernel
theorem dX5_insert_27 : decode cX5_insert 27 = .ok (.getfield 15, 3) := by decide +kernel
theorem dX5_insert_30 : decode cX5_insert 30 = .ok (.iload_n 3, 1) := by decide +kernel
theorem dX5_insert_31 : decode cX5_insert 31 = .ok (.iconst 1, 1) := by decide +kernel
theorem dX5_insert_32 : decode cX5_insert 32 = .ok (.isub, 1) := by decide +kernel
theorem dX5_insert_33 : decode cX5_insert 33 = .ok (.faload, 1) := by decide +kernel
theorem dX5_insert_34 : decode cX5_insert 34 = .ok (.fload_n 2, 1) := by decide +kernel
theorem dX5_insert_35 : decode cX5_insert 35 = .ok (.fcmp .g, 1) := by decide +kernel
theorem dX5_insert_36 : decode cX5_insert 36 = .ok (.ifCond .ge 37, 3) := by decide +kernel
theorem dX5_insert_39 : decode cX5_insert 39 = .ok (.aload_n 0, 1) := by decide +kernel
theorem dX5_insert_40 : decode cX5_insert 40 = .ok (.getfield 9, 3) := by decide +kernel
theorem dX5_insert_43 : decode cX5_insert 43 = .ok (.iload_n 3, 1) := by decide +kernel
theorem dX5_insert_44 : decode cX5_insert 44 = .ok (.aload_n 0, 1) := by decide +kernel
theorem dX5_insert_45 : decode cX5_insert 45 = .ok (.getfield 9, 3) := by decide +kernel
theorem dX5_insert_48 : decode cX5_insert 48 = .ok (.iload_n 3, 1) := by decide +kernel
theorem dX5_insert_49 : decode cX5_insert 49 = .ok (.iconst 1, 1) := by decide +kernel
theorem dX5_insert_50 : decode cX5_insert 50 = .ok (.isub, 1) := by decide +kernel
theorem dX5_insert_51 : decode cX5_insert 51 = .ok (.iaload, 1) := by decide +kernel
theorem dX5_insert_52 : decode cX5_insert 52 = .ok (.iastore, 1) := by decide +kernel
theorem dX5_insert_53 : decode cX5_insert 53 = .ok (.aload_n 0, 1) := by decide +kernel
theorem dX5_insert_54 : decode cX5_insert 54 = .ok (.getfield 15, 3) := by decide +kernel
theorem dX5_insert_57 : decode cX5_insert 57 = .ok (.iload_n 3, 1) := by decide +kernel
theorem dX5_insert_58 : decode cX5_insert 58 = .ok (.aload_n 0, 1) := by decide +kernel
theorem dX5_insert_59 : decode cX5_insert 59 = .ok (.getfield 15, 3) := by decide +kernel
theorem dX5_insert_62 : decode cX5_insert 62 = .ok (.iload_n 3, 1) := by decide +kernel
theorem dX5_insert_63 : decode cX5_insert 63 = .ok (.iconst 1, 1) := by decide +kernel
theorem dX5_insert_64 : decode cX5_insert 64 = .ok (.isub, 1) := by decide +kernel
theorem dX5_insert_65 : decode cX5_insert 65 = .ok (.faload, 1) := by decide +kernel
theorem dX5_insert_66 : decode cX5_insert 66 = .ok (.fastore, 1) := by decide +kernel
theorem dX5_insert_67 : decode cX5_insert 67 = .ok (.iinc 3 (-1), 3) := by decide +kernel
theorem dX5_insert_70 : decode cX5_insert 70 = .ok (.goto (-48), 3) := by decide +kernel
theorem dX5_insert_73 : decode cX5_insert 73 = .ok (.aload_n 0, 1) := by decide +kernel
theorem dX5_insert_74 : decode cX5_insert 74 = .ok (.getfield 9, 3) := by decide +kernel
theorem dX5_insert_77 : decode cX5_insert 77 = .ok (.iload_n 3, 1) := by decide +kernel
theorem dX5_insert_78 : decode cX5_insert 78 = .ok (.iload_n 1, 1) := by decide +kernel
theorem dX5_insert_79 : decode cX5_insert 79 = .ok (.iastore, 1) := by decide +kernel
theorem dX5_insert_80 : decode cX5_insert 80 = .ok (.aload_n 0, 1) := by decide +kernel
theorem dX5_insert_81 : decode cX5_insert 81 = .ok (.getfield 15, 3) := by decide +kernel
theorem dX5_insert_84 : decode cX5_insert 84 = .ok (.iload_n 3, 1) := by decide +kernel
theorem dX5_insert_85 : decode cX5_insert 85 = .ok (.fload_n 2, 1) := by decide +kernel
theorem dX5_insert_86 : decode cX5_insert 86 = .ok (.fastore, 1) := by decide +kernel
theorem dX5_insert_87 : decode cX5_insert 87 = .ok (.aload_n 0, 1) := by decide +kernel
theorem dX5_insert_88 : decode cX5_insert 88 = .ok (.dup, 1) := by decide +kernel
theorem dX5_insert_89 : decode cX5_insert 89 = .ok (.getfield 19, 3) := by decide +kernel
theorem dX5_insert_92 : decode cX5_insert 92 = .ok (.iconst 1, 1) := by decide +kernel
theorem dX5_insert_93 : decode cX5_insert 93 = .ok (.iadd, 1) := by decide +kernel
theorem dX5_insert_94 : decode cX5_insert 94 = .ok (.putfield 19, 3) := by decide +kernel
theorem dX5_insert_97 : decode cX5_insert 97 = .ok (.return_, 1) := by decide +kernel
theorem dX5_invoiceAt_0 : decode cX5_invoiceAt 0 = .ok (.iload_n 1, 1) := by decide +kernel
theorem dX5_invoiceAt_1 : decode cX5_invoiceAt 1 = .ok (.ifCond .lt 9, 3) := by decide +kernel
theorem dX5_invoiceAt_4 : decode cX5_invoiceAt 4 = .ok (.iload_n 1, 1) := by decide +kernel
theorem dX5_invoiceAt_5 : decode cX5_invoiceAt 5 = .ok (.bipush 20, 2) := by decide +kernel
theorem dX5_invoiceAt_7 : decode cX5_invoiceAt 7 = .ok (.if_icmp .lt 8, 3) := by decide +kernel
theorem dX5_invoiceAt_10 : decode cX5_invoiceAt 10 = .ok (.bipush (-5), 2) := by decide +kernel
theorem dX5_invoiceAt_12 : decode cX5_invoiceAt 12 = .ok (.goto 9, 3) := by decide +kernel
theorem dX5_invoiceAt_15 : decode cX5_invoiceAt 15 = .ok (.aload_n 0, 1) := by decide +kernel
theorem dX5_invoiceAt_16 : decode cX5_invoiceAt 16 = .ok (.getfield 9, 3) := by decide +kernel
theorem dX5_invoiceAt_19 : decode cX5_invoiceAt 19 = .ok (.iload_n 1, 1) := by decide +kernel
theorem dX5_invoiceAt_20 : decode cX5_invoiceAt 20 = .ok (.iaload, 1) := by decide +kernel
theorem dX5_invoiceAt_21 : decode cX5_invoiceAt 21 = .ok (.ireturn, 1) := by decide +kernel
theorem dX6_init_0 : decode cX6_init 0 = .ok (.aload_n 0, 1) := by decide +kernel
theorem dX6_init_1 : decode cX6_init 1 = .ok (.invokespecial 3, 3) := by decide +kernel
theorem dX6_init_4 : decode cX6_init 4 = .ok (.aload_n 0, 1) := by decide +kernel
theorem dX6_init_5 : decode cX6_init 5 = .ok (.bipush 60, 2) := by decide +kernel
theorem dX6_init_7 : decode cX6_init 7 = .ok (.newarray .char, 2) := by decide +kernel
theorem dX6_init_9 : decode cX6_init 9 = .ok (.putfield 9, 3) := by decide +kernel
theorem dX6_init_12 : decode cX6_init 12 = .ok (.aload_n 0, 1) := by decide +kernel
theorem dX6_init_13 : decode cX6_init 13 = .ok (.bipush 60, 2) := by decide +kernel
theorem dX6_init_15 : decode cX6_init 15 = .ok (.newarray .int, 2) := by decide +kernel
theorem dX6_init_17 : decode cX6_init 17 = .ok (.putfield 15, 3) := by decide +kernel
theorem dX6_init_20 : decode cX6_init 20 = .ok (.aload_n 0, 1) := by decide +kernel
theorem dX6_init_21 : decode cX6_init 21 = .ok (.bipush 60, 2) := by decide +kernel
theorem dX6_init_23 : decode cX6_init 23 = .ok (.newarray .int, 2) := by decide +kernel
theorem dX6_init_25 : decode cX6_init 25 = .ok (.putfield 19, 3) := by decide +kernel
theorem dX6_init_28 : decode cX6_init 28 = .ok (.return_, 1) := by decide +kernel
theorem dX6_append_0 : decode cX6_append 0 = .ok (.aload_n 0, 1) := by decide +kernel
theorem dX6_append_1 : decode cX6_append 1 = .ok (.getfield 22, 3) := by decide +kernel
theorem dX6_append_4 : decode cX6_append 4 = .ok (.ifCond .lt 12, 3) := by decide +kernel
theorem dX6_append_7 : decode cX6_append 7 = .ok (.aload_n 0, 1) := by decide +kernel
theorem dX6_append_8 : decode cX6_append 8 = .ok (.getfield 22, 3) := by decide +kernel
theorem dX6_append_11 : decode cX6_append 11 = .ok (.bipush 60, 2) := by decide +kernel
theorem dX6_append_13 : decode cX6_append 13 = .ok (.if_icmp .lt 6, 3) := by decide +kernel
theorem dX6_append_16 : decode cX6_append 16 = .ok (.bipush (-3), 2) := by decide +kernel
theorem dX6_append_18 : decode cX6_append 18 = .ok (.ireturn, 1) := by decide +kernel
theorem dX6_append_19 : decode cX6_append 19 = .ok (.aload_n 0, 1) := by decide +kernel
theorem dX6_append_20 : decode cX6_append 20 = .ok (.getfield 9, 3) := by decide +kernel
theorem dX6_append_23 : decode cX6_append 23 = .ok (.aload_n 0, 1) := by decide +kernel
theorem dX6_append_24 : decode cX6_append 24 = .ok (.getfield 22, 3) := by decide +kernel
theorem dX6_append_27 : decode cX6_append 27 = .ok (.iload_n 1, 1) := by decide +kernel
theorem dX6_append_28 : decode cX6_append 28 = .ok (.castore, 1) := by decide +kernel
theorem dX6_append_29 : decode cX6_append 29 = .ok (.aload_n 0, 1) := by decide +kernel
theorem dX6_append_30 : decode cX6_append 30 = .ok (.dup, 1) := by decide +kernel
theorem dX6_append_31 : decode cX6_append 31 = .ok (.getfield 22, 3) := by decide +kernel
theorem dX6_append_34 : decode cX6_append 34 = .ok (.iconst 1, 1) := by decide +kernel
theorem dX6_append_35 : decode cX6_append 35 = .ok (.iadd, 1) := by decide +kernel
theorem dX6_append_36 : decode cX6_append 36 = .ok (.putfield 22, 3) := by decide +kernel
theorem dX6_append_39 : decode cX6_append 39 = .ok (.aload_n 0, 1) := by decide +kernel
theorem dX6_append_40 : decode cX6_append 40 = .ok (.getfield 22, 3) := by decide +kernel
theorem dX6_append_43 : decode cX6_append 43 = .ok (.ireturn, 1) := by decide +kernel
theorem dX6_invoiceOf_0 : decode cX6_invoiceOf 0 = .ok (.iload_n 1, 1) := by decide +kernel
theorem dX6_invoiceOf_1 : decode cX6_invoiceOf 1 = .ok (.ifCond .lt 9, 3) := by decide +kernel
theorem dX6_invoiceOf_4 : decode cX6_invoiceOf 4 = .ok (.iload_n 1, 1) := by decide +kernel
theorem dX6_invoiceOf_5 : decode cX6_invoiceOf 5 = .ok (.bipush 60, 2) := by decide +kernel
theorem dX6_invoiceOf_7 : decode cX6_invoiceOf 7 = .ok (.if_icmp .lt 7, 3) := by decide +kernel
theorem dX6_invoiceOf_10 : decode cX6_invoiceOf 10 = .ok (.iconst (-1), 1) := by decide +kernel
theorem dX6_invoiceOf_11 : decode cX6_invoiceOf 11 = .ok (.goto 9, 3) := by decide +kernel
theorem dX6_invoiceOf_14 : decode cX6_invoiceOf 14 = .ok (.aload_n 0, 1) := by decide +kernel
theorem dX6_invoiceOf_15 : decode cX6_invoiceOf 15 = .ok (.getfield 15, 3) := by decide +kernel
theorem dX6_invoiceOf_18 : decode cX6_invoiceOf 18 = .ok (.iload_n 1, 1) := by decide +kernel
theorem dX6_invoiceOf_19 : decode cX6_invoiceOf 19 = .ok (.iaload, 1) := by decide +kernel
theorem dX6_invoiceOf_20 : decode cX6_invoiceOf 20 = .ok (.ireturn, 1) := by decide +kernel
theorem dX6_centsOf_0 : decode cX6_centsOf 0 = .ok (.iload_n 1, 1) := by decide +kernel
theorem dX6_centsOf_1 : decode cX6_centsOf 1 = .ok (.ifCond .lt 9, 3) := by decide +kernel
theorem dX6_centsOf_4 : decode cX6_centsOf 4 = .ok (.iload_n 1, 1) := by decide +kernel
theorem dX6_centsOf_5 : decode cX6_centsOf 5 = .ok (.bipush 60, 2) := by decide +kernel
theorem dX6_centsOf_7 : decode cX6_centsOf 7 = .ok (.if_icmp .lt 7, 3) := by decide +kernel
theorem dX6_centsOf_10 : decode cX6_centsOf 10 = .ok (.iconst 0, 1) := by decide +kernel
theorem dX6_centsOf_11 : decode cX6_centsOf 11 = .ok (.goto 9, 3) := by decide +kernel
theorem dX6_centsOf_14 : decode cX6_centsOf 14 = .ok (.aload_n 0, 1) := by decide +kernel
theorem dX6_centsOf_15 : decode cX6_centsOf 15 = .ok (.getfield 19, 3) := by decide +kernel
theorem dX6_centsOf_18 : decode cX6_centsOf 18 = .ok (.iload_n 1, 1) := by decide +kernel
theorem dX6_centsOf_19 : decode cX6_centsOf 19 = .ok (.iaload, 1) := by decide +kernel
theorem dX6_centsOf_20 : decode cX6_centsOf 20 = .ok (.ireturn, 1) := by decide +kernel
theorem dX6_read_0 : decode cX6_read 0 = .ok (.aload_n 0, 1) := by decide +kernel
theorem dX6_read_1 : decode cX6_read 1 = .ok (.iconst 0, 1) := by decide +kernel
theorem dX6_read_2 : decode cX6_read 2 = .ok (.putfield 26, 3) := by decide +kernel
theorem dX6_read_5 : decode cX6_read 5 = .ok (.iconst 0, 1) := by decide +kernel
theorem dX6_read_6 : decode cX6_read 6 = .ok (.istore_n 1, 1) := by decide +kernel
theorem dX6_read_7 : decode cX6_read 7 = .ok (.iconst 0, 1) := by decide +kernel
theorem dX6_read_8 : decode cX6_read 8 = .ok (.istore_n 2, 1) := by decide +kernel
theorem dX6_read_9 : decode cX6_read 9 = .ok (.iload_n 2, 1) := by decide +kernel
theorem dX6_read_10 : decode cX6_read 10 = .ok (.aload_n 0, 1) := by decide +kernel
theorem dX6_read_11 : decode cX6_read 11 = .ok (.getfield 22, 3) := by decide +kernel
theorem dX6_read_14 : decode cX6_read 14 = .ok (.if_icmp .ge 33, 3) := by decide +kernel
theorem dX6_read_17 : decode cX6_read 17 = .ok (.iload_n 2, 1) := by decide +kernel
theorem dX6_read_18 : decode cX6_read 18 = .ok (.bipush 60, 2) := by decide +kernel
theorem dX6_read_20 : decode cX6_read 20 = .ok (.if_icmp .ge 27, 3) := by decide +kernel
theorem dX6_read_23 : decode cX6_read 23 = .ok (.iload_n 1, 1) := by decide +kernel
theorem dX6_read_24 : decode cX6_read 24 = .ok (.aload_n 0, 1) := by decide +kernel
theorem dX6_read_25 : decode cX6_read 25 = .ok (.getfield 9, 3) := by decide +kernel
theorem dX6_read_28 : decode cX6_read 28 = .ok (.iload_n 2, 1) := by decide +kernel
theorem dX6_read_29 : decode cX6_read 29 = .ok (.caload, 1) := by decide +kernel
theorem dX6_read_30 : decode cX6_read 30 = .ok (.invokestatic 29, 3) := by decide +kernel
theorem dX6_read_33 : decode cX6_read 33 = .ok (.istore_n 1, 1) := by decide +kernel
theorem dX6_read_34 : decode cX6_read 34 = .ok (.iload_n 1, 1) := by decide +kernel
theorem dX6_read_35 : decode cX6_read 35 = .ok (.iconst (-1), 1) := by decide +kernel
theorem dX6_read_36 : decode cX6_read 36 = .ok (.if_icmp .ne 5, 3) := by decide +kernel
theorem dX6_read_39 : decode cX6_read 39 = .ok (.iload_n 2, 1) := by decide +kernel
theorem dX6_read_40 : decode cX6_read 40 = .ok (.ireturn, 1) := by decide +kernel
theorem dX6_read_41 : decode cX6_read 41 = .ok (.iinc 2 1, 3) := by decide +kernel
theorem dX6_read_44 : decode cX6_read 44 = .ok (.goto (-35), 3) := by decide +kernel
theorem dX6_read_47 : decode cX6_read 47 = .ok (.iload_n 1, 1) := by decide +kernel
theorem dX6_read_48 : decode cX6_read 48 = .ok (.iconst 3, 1) := by decide +kernel
theorem dX6_read_49 : decode cX6_read 49 = .ok (.if_icmp .gt 8, 3) := by decide +kernel
theorem dX6_read_52 : decode cX6_read 52 = .ok (.aload_n 0, 1) := by decide +kernel
theorem dX6_read_53 : decode cX6_read 53 = .ok (.getfield 22, 3) := by decide +kernel
theorem dX6_read_56 : decode cX6_read 56 = .ok (.ireturn, 1) := by decide +kernel
theorem dX6_read_57 : decode cX6_read 57 = .ok (.aload_n 0, 1) := by decide +kernel
theorem dX6_read_58 : decode cX6_read 58 = .ok (.invokevirtual 33, 3) := by decide +kernel
theorem dX6_read_61 : decode cX6_read 61 = .ok (.iconst (-1), 1) := by decide +kernel
theorem dX6_read_62 : decode cX6_read 62 = .ok (.ireturn, 1) := by decide +kernel
theorem dX6_placeBehind_0 : decode cX6_placeBehind 0 = .ok (.iload_n 1, 1) := by decide +kernel
theorem dX6_placeBehind_1 : decode cX6_placeBehind 1 = .ok (.bipush 48, 2) := by decide +kernel
theorem dX6_placeBehind_3 : decode cX6_placeBehind 3 = .ok (.if_icmp .lt 13, 3) := by decide +kernel
theorem dX6_placeBehind_6 : decode cX6_placeBehind 6 = .ok (.iload_n 1, 1) := by decide +kernel
theorem dX6_placeBehind_7 : decode cX6_placeBehind 7 = .ok (.bipush 57, 2) := by decide +kernel
theorem dX6_placeBehind_9 : decode cX6_placeBehind 9 = .ok (.if_icmp .gt 7, 3) := by decide +kernel
theorem dX6_placeBehind_12 : decode cX6_placeBehind 12 = .ok (.iconst 1, 1) := by decide +kernel
theorem dX6_placeBehind_13 : decode cX6_placeBehind 13 = .ok (.goto 4, 3) := by decide +kernel
theorem dX6_placeBehind_16 : decode cX6_placeBehind 16 = .ok (.iconst 0, 1) := by decide +kernel
theorem dX6_placeBehind_17 : decode cX6_placeBehind 17 = .ok (.istore_n 2, 1) := by decide +kernel
theorem dX6_placeBehind_18 : decode cX6_placeBehind 18 = .ok (.iload_n 0, 1) := by decide +kernel
theorem dX6_placeBehind_19 : decode cX6_placeBehind 19 = .ok (.tableswitch 93 0 3 #[29, 47, 65, 77], 29) := by decide +kernel
theorem dX6_placeBehind_48 : decode cX6_placeBehind 48 = .ok (.iload_n 1, 1) := by decide +kernel
theorem dX6_placeBehind_49 : decode cX6_placeBehind 49 = .ok (.bipush 48, 2) := by decide +kernel
theorem dX6_placeBehind_51 : decode cX6_placeBehind 51 = .ok (.if_icmp .ne 5, 3) := by decide +kernel
theorem dX6_placeBehind_54 : decode cX6_placeBehind 54 = .ok (.iconst 2, 1) := by decide +kernel
theorem dX6_placeBehind_55 : decode cX6_placeBehind 55 = .ok (.ireturn, 1) := by decide +kernel
theorem dX6_placeBehind_56 : decode cX6_placeBehind 56 = .ok (.iload_n 2, 1) := by decide +kernel
theorem dX6_placeBehind_57 : decode cX6_placeBehind 57 = .ok (.ifCond .eq 7, 3) := by decide +kernel
theorem dX6_placeBehind_60 : decode cX6_placeBehind 60 = .ok (.iconst 1, 1) := by decide +kernel
theorem dX6_placeBehind_61 : decode cX6_placeBehind 61 = .ok (.goto 4, 3) := by decide +kernel
theorem dX6_placeBehind_64 : decode cX6_placeBehind 64 = .ok (.iconst (-1), 1) := by decide +kernel
theorem dX6_placeBehind_65 : decode cX6_placeBehind 65 = .ok (.ireturn, 1) := by decide +kernel
theorem dX6_placeBehind_66 : decode cX6_placeBehind 66 = .ok (.iload_n 1, 1) := by decide +kernel
theorem dX6_placeBehind_67 : decode cX6_placeBehind 67 = .ok (.bipush 61, 2) := by decide +kernel
theorem dX6_placeBehind_69 : decode cX6_placeBehind 69 = .ok (.if_icmp .ne 5, 3) := by decide +kernel
theorem dX6_placeBehind_72 : decode cX6_placeBehind 72 = .ok (.iconst 3, 1) := by decide +kernel
theorem dX6_placeBehind_73 : decode cX6_placeBehind 73 = .ok (.ireturn, 1) := by decide +kernel
theorem dX6_placeBehind_74 : decode cX6_placeBehind 74 = .ok (.iload_n 2, 1) := by decide +kernel
theorem dX6_placeBehind_75 : decode cX6_placeBehind 75 = .ok (.ifCond .eq 7, 3) := by decide +kernel
theorem dX6_placeBehind_78 : decode cX6_placeBehind 78 = .ok (.iconst 2, 1) := by decide +kernel
theorem dX6_placeBehind_79 : decode cX6_placeBehind 79 = .ok (.goto 4, 3) := by decide +kernel
theorem dX6_placeBehind_82 : decode cX6_placeBehind 82 = .ok (.iconst (-1), 1) := by decide +kernel
theorem dX6_placeBehind_83 : decode cX6_placeBehind 83 = .ok (.ireturn, 1) := by decide +kernel
theorem dX6_placeBehind_84 : decode cX6_placeBehind 84 = .ok (.iload_n 1, 1) := by decide +kernel
theorem dX6_placeBehind_85 : decode cX6_placeBehind 85 = .ok (.bipush 61, 2) := by decide +kernel
theorem dX6_placeBehind_87 : decode cX6_placeBehind 87 = .ok (.if_icmp .ne 7, 3) := by decide +kernel
theorem dX6_placeBehind_90 : decode cX6_placeBehind 90 = .ok (.iconst 3, 1) := by decide +kernel
theorem dX6_placeBehind_91 : decode cX6_placeBehind 91 = .ok (.goto 4, 3) := by decide +kernel
theorem dX6_placeBehind_94 : decode cX6_placeBehind 94 = .ok (.iconst (-1), 1) := by decide +kernel
theorem dX6_placeBehind_95 : decode cX6_placeBehind 95 = .ok (.ireturn, 1) := by decide +kernel
theorem dX6_placeBehind_96 : decode cX6_placeBehind 96 = .ok (.iload_n 2, 1) := by decide +kernel
theorem dX6_placeBehind_97 : decode cX6_placeBehind 97 = .ok (.ifCond .eq 13, 3) := by decide +kernel
theorem dX6_placeBehind_100 : decode cX6_placeBehind 100 = .ok (.iload_n 1, 1) := by decide +kernel
theorem dX6_placeBehind_101 : decode cX6_placeBehind 101 = .ok (.bipush 48, 2) := by decide +kernel
theorem dX6_placeBehind_103 : decode cX6_placeBehind 103 = .ok (.if_icmp .eq 7, 3) := by decide +kernel
theorem dX6_placeBehind_106 : decode cX6_placeBehind 106 = .ok (.iconst 4, 1) := by decide +kernel
theorem dX6_placeBehind_107 : decode cX6_placeBehind 107 = .ok (.goto 4, 3) := by decide +kernel
theorem dX6_placeBehind_110 : decode cX6_placeBehind 110 = .ok (.iconst (-1), 1) := by decide +kernel
theorem dX6_placeBehind_111 : decode cX6_placeBehind 111 = .ok (.ireturn, 1) := by decide +kernel
theorem dX6_placeBehind_112 : decode cX6_placeBehind 112 = .ok (.iload_n 1, 1) := by decide +kernel
theorem dX6_placeBehind_113 : decode cX6_placeBehind 113 = .ok (.bipush 44, 2) := by decide +kernel
theorem dX6_placeBehind_115 : decode cX6_placeBehind 115 = .ok (.if_icmp .ne 5, 3) := by decide +kernel
theorem dX6_placeBehind_118 : decode cX6_placeBehind 118 = .ok (.iconst 0, 1) := by decide +kernel
theorem dX6_placeBehind_119 : decode cX6_placeBehind 119 = .ok (.ireturn, 1) := by decide +kernel
theorem dX6_placeBehind_120 : decode cX6_placeBehind 120 = .ok (.iload_n 2, 1) := by decide +kernel
theorem dX6_placeBehind_121 : decode cX6_placeBehind 121 = .ok (.ifCond .eq 15, 3) := by decide +kernel
theorem dX6_placeBehind_124 : decode cX6_placeBehind 124 = .ok (.iload_n 0, 1) := by decide +kernel
theorem dX6_placeBehind_125 : decode cX6_placeBehind 125 = .ok (.bipush 10, 2) := by decide +kernel
theorem dX6_placeBehind_127 : decode cX6_placeBehind 127 = .ok (.if_icmp .ge 9, 3) := by decide +kernel
theorem dX6_placeBehind_130 : decode cX6_placeBehind 130 = .ok (.iload_n 0, 1) := by decide +kernel
theorem dX6_placeBehind_131 : decode cX6_placeBehind 131 = .ok (.iconst 1, 1) := by decide +kernel
theorem dX6_placeBehind_132 : decode cX6_placeBehind 132 = .ok (.iadd, 1) := by decide +kernel
theorem dX6_placeBehind_133 : decode cX6_placeBehind 133 = .ok (.goto 4, 3) := by decide +kernel
theorem dX6_placeBehind_136 : decode cX6_placeBehind 136 = .ok (.iconst (-1), 1) := by decide +kernel
theorem dX6_placeBehind_137 : decode cX6_placeBehind 137 = .ok (.ireturn, 1) := by decide +kernel
theorem dX6_readNumbers_0 : decode cX6_readNumbers 0 = .ok (.iconst 0, 1) := by decide +kernel
theorem dX6_readNumbers_1 : decode cX6_readNumbers 1 = .ok (.istore_n 1, 1) := by decide +kernel
theorem dX6_readNumbers_2 : decode cX6_readNumbers 2 = .ok (.iconst 0, 1) := by decide +kernel
theorem dX6_readNumbers_3 : decode cX6_readNumbers 3 = .ok (.istore_n 2, 1) := by decide +kernel
theorem dX6_readNumbers_4 : decode cX6_readNumbers 4 = .ok (.iconst 0, 1) := by decide +kernel
theorem dX6_readNumbers_5 : decode cX6_readNumbers 5 = .ok (.istore_n 3, 1) := by decide +kernel
theorem dX6_readNumbers_6 : decode cX6_readNumbers 6 = .ok (.iload_n 3, 1) := by decide +kernel
theorem dX6_readNumbers_7 : decode cX6_readNumbers 7 = .ok (.aload_n 0, 1) := by decide +kernel
theorem dX6_readNumbers_8 : decode cX6_readNumbers 8 = .ok (.getfield 22, 3) := by decide +kernel
theorem dX6_readNumbers_11 : decode cX6_readNumbers 11 = .ok (.if_icmp .ge 88, 3) := by decide +kernel
theorem dX6_readNumbers_14 : decode cX6_readNumbers 14 = .ok (.iload_n 3, 1) := by decide +kernel
theorem dX6_readNumbers_15 : decode cX6_readNumbers 15 = .ok (.bipush 60, 2) := by decide +kernel
theorem dX6_readNumbers_17 : decode cX6_readNumbers 17 = .ok (.if_icmp .ge 82, 3) := by decide +kernel
theorem dX6_readNumbers_20 : decode cX6_readNumbers 20 = .ok (.aload_n 0, 1) := by decide +kernel
theorem dX6_readNumbers_21 : decode cX6_readNumbers 21 = .ok (.getfield 9, 3) := by decide +kernel
theorem dX6_readNumbers_24 : decode cX6_readNumbers 24 = .ok (.iload_n 3, 1) := by decide +kernel
theorem dX6_readNumbers_25 : decode cX6_readNumbers 25 = .ok (.caload, 1) := by decide +kernel
theorem dX6_readNumbers_26 : decode cX6_readNumbers 26 = .ok (.istore 4, 2) := by decide +kernel
theorem dX6_readNumbers_28 : decode cX6_readNumbers 28 = .ok (.iload 4, 2) := by decide +kernel
theorem dX6_readNumbers_30 : decode cX6_readNumbers 30 = .ok (.bipush 61, 2) := by decide +kernel
theorem dX6_readNumbers_32 : decode cX6_readNumbers 32 = .ok (.if_icmp .ne 15, 3) := by decide +kernel
theorem dX6_readNumbers_35 : decode cX6_readNumbers 35 = .ok (.aload_n 0, 1) := by decide +kernel
theorem dX6_readNumbers_36 : decode cX6_readNumbers 36 = .ok (.getfield 15, 3) := by decide +kernel
theorem dX6_readNumbers_39 : decode cX6_readNumbers 39 = .ok (.iload_n 2, 1) := by decide +kernel
theorem dX6_readNumbers_40 : decode cX6_readNumbers 40 = .ok (.iload_n 1, 1) := by decide +kernel
theorem dX6_readNumbers_41 : decode cX6_readNumbers 41 = .ok (.iastore, 1) := by decide +kernel
theorem dX6_readNumbers_42 : decode cX6_readNumbers 42 = .ok (.iconst 0, 1) := by decide +kernel
theorem dX6_readNumbers_43 : decode cX6_readNumbers 43 = .ok (.istore_n 1, 1) := by decide +kernel
theorem dX6_readNumbers_44 : decode cX6_readNumbers 44 = .ok (.goto 49, 3) := by decide +kernel
theorem dX6_readNumbers_47 : decode cX6_readNumbers 47 = .ok (.iload 4, 2) := by decide +kernel
theorem dX6_readNumbers_49 : decode cX6_readNumbers 49 = .ok (.bipush 44, 2) := by decide +kernel
theorem dX6_readNumbers_51 : decode cX6_readNumbers 51 = .ok (.if_icmp .ne 24, 3) := by decide +kernel
theorem dX6_readNumbers_54 : decode cX6_readNumbers 54 = .ok (.iload_n 2, 1) := by decide +kernel
theorem dX6_readNumbers_55 : decode cX6_readNumbers 55 = .ok (.iconst 1, 1) := by decide +kernel
theorem dX6_readNumbers_56 : decode cX6_readNumbers 56 = .ok (.iadd, 1) := by decide +kernel
theorem dX6_readNumbers_57 : decode cX6_readNumbers 57 = .ok (.bipush 60, 2) := by decide +kernel
theorem dX6_readNumbers_59 : decode cX6_readNumbers 59 = .ok (.if_icmp .ge 9, 3) := by decide +kernel
theorem dX6_readNumbers_62 : decode cX6_readNumbers 62 = .ok (.iload_n 2, 1) := by decide +kernel
theorem dX6_readNumbers_63 : decode cX6_readNumbers 63 = .ok (.iconst 1, 1) := by decide +kernel
theorem dX6_readNumbers_64 : decode cX6_readNumbers 64 = .ok (.iadd, 1) := by decide +kernel
theorem dX6_readNumbers_65 : decode cX6_readNumbers 65 = .ok (.goto 4, 3) := by decide +kernel
theorem dX6_readNumbers_68 : decode cX6_readNumbers 68 = .ok (.iload_n 2, 1) := by decide +kernel
theorem dX6_readNumbers_69 : decode cX6_readNumbers 69 = .ok (.istore_n 2, 1) := by decide +kernel
theorem dX6_readNumbers_70 : decode cX6_readNumbers 70 = .ok (.iconst 0, 1) := by decide +kernel
theorem dX6_readNumbers_71 : decode cX6_readNumbers 71 = .ok (.istore_n 1, 1) := by decide +kernel
theorem dX6_readNumbers_72 : decode cX6_readNumbers 72 = .ok (.goto 21, 3) := by decide +kernel
theorem dX6_readNumbers_75 : decode cX6_readNumbers 75 = .ok (.iload_n 1, 1) := by decide +kernel
theorem dX6_readNumbers_76 : decode cX6_readNumbers 76 = .ok (.bipush 10, 2) := by decide +kernel
theorem dX6_readNumbers_78 : decode cX6_readNumbers 78 = .ok (.imul, 1) := by decide +kernel
theorem dX6_readNumbers_79 : decode cX6_readNumbers 79 = .ok (.iload 4, 2) := by decide +kernel
theorem dX6_readNumbers_81 : decode cX6_readNumbers 81 = .ok (.bipush 48, 2) := by decide +kernel
theorem dX6_readNumbers_83 : decode cX6_readNumbers 83 = .ok (.isub, 1) := by decide +kernel
theorem dX6_readNumbers_84 : decode cX6_readNumbers 84 = .ok (.iadd, 1) := by decide +kernel
theorem dX6_readNumbers_85 : decode cX6_readNumbers 85 = .ok (.istore_n 1, 1) := by decide +kernel
theorem dX6_readNumbers_86 : decode cX6_readNumbers 86 = .ok (.aload_n 0, 1) := by decide +kernel
theorem dX6_readNumbers_87 : decode cX6_readNumbers 87 = .ok (.getfield 19, 3) := by decide +kernel
theorem dX6_readNumbers_90 : decode cX6_readNumbers 90 = .ok (.iload_n 2, 1) := by decide +kernel
theorem dX6_readNumbers_91 : decode cX6_readNumbers 91 = .ok (.iload_n 1, 1) := by decide +kernel
theorem dX6_readNumbers_92 : decode cX6_readNumbers 92 = .ok (.iastore, 1) := by decide +kernel
theorem dX6_readNumbers_93 : decode cX6_readNumbers 93 = .ok (.iinc 3 1, 3) := by decide +kernel
theorem dX6_readNumbers_96 : decode cX6_readNumbers 96 = .ok (.goto (-90), 3) := by decide +kernel
theorem dX6_readNumbers_99 : decode cX6_readNumbers 99 = .ok (.aload_n 0, 1) := by decide +kernel
theorem dX6_readNumbers_100 : decode cX6_readNumbers 100 = .ok (.iload_n 2, 1) := by decide +kernel
theorem dX6_readNumbers_101 : decode cX6_readNumbers 101 = .ok (.iconst 1, 1) := by decide +kernel
theorem dX6_readNumbers_102 : decode cX6_readNumbers 102 = .ok (.iadd, 1) := by decide +kernel
theorem dX6_readNumbers_103 : decode cX6_readNumbers 103 = .ok (.putfield 26, 3) := by decide +kernel
theorem dX6_readNumbers_106 : decode cX6_readNumbers 106 = .ok (.return_, 1) := by decide +kernel
theorem dX7_init_0 : decode cX7_init 0 = .ok (.aload_n 0, 1) := by decide +kernel
theorem dX7_init_1 : decode cX7_init 1 = .ok (.invokespecial 1, 3) := by decide +kernel
theorem dX7_init_4 : decode cX7_init 4 = .ok (.aload_n 0, 1) := by decide +kernel
theorem dX7_init_5 : decode cX7_init 5 = .ok (.new 7, 3) := by decide +kernel
theorem dX7_init_8 : decode cX7_init 8 = .ok (.dup, 1) := by decide +kernel
theorem dX7_init_9 : decode cX7_init 9 = .ok (.invokespecial 9, 3) := by decide +kernel
theorem dX7_init_12 : decode cX7_init 12 = .ok (.putfield 10, 3) := by decide +kernel
theorem dX7_init_15 : decode cX7_init 15 = .ok (.aload_n 0, 1) := by decide +kernel
theorem dX7_init_16 : decode cX7_init 16 = .ok (.new 7, 3) := by decide +kernel
theorem dX7_init_19 : decode cX7_init 19 = .ok (.dup, 1) := by decide +kernel
theorem dX7_init_20 : decode cX7_init 20 = .ok (.invokespecial 9, 3) := by decide +kernel
theorem dX7_init_23 : decode cX7_init 23 = .ok (.putfield 16, 3) := by decide +kernel
theorem dX7_init_26 : decode cX7_init 26 = .ok (.aload_n 0, 1) := by decide +kernel
theorem dX7_init_27 : decode cX7_init 27 = .ok (.new 7, 3) := by decide +kernel
theorem dX7_init_30 : decode cX7_init 30 = .ok (.dup, 1) := by decide +kernel
theorem dX7_init_31 : decode cX7_init 31 = .ok (.invokespecial 9, 3) := by decide +kernel
theorem dX7_init_34 : decode cX7_init 34 = .ok (.putfield 19, 3) := by decide +kernel
theorem dX7_init_37 : decode cX7_init 37 = .ok (.aload_n 0, 1) := by decide +kernel
theorem dX7_init_38 : decode cX7_init 38 = .ok (.new 22, 3) := by decide +kernel
theorem dX7_init_41 : decode cX7_init 41 = .ok (.dup, 1) := by decide +kernel
theorem dX7_init_42 : decode cX7_init 42 = .ok (.invokespecial 24, 3) := by decide +kernel
theorem dX7_init_45 : decode cX7_init 45 = .ok (.putfield 25, 3) := by decide +kernel
theorem dX7_init_48 : decode cX7_init 48 = .ok (.aload_n 0, 1) := by decide +kernel
theorem dX7_init_49 : decode cX7_init 49 = .ok (.new 29, 3) := by decide +kernel
theorem dX7_init_52 : decode cX7_init 52 = .ok (.dup, 1) := by decide +kernel
theorem dX7_init_53 : decode cX7_init 53 = .ok (.invokespecial 31, 3) := by decide +kernel
theorem dX7_init_56 : decode cX7_init 56 = .ok (.putfield 32, 3) := by decide +kernel
theorem dX7_init_59 : decode cX7_init 59 = .ok (.aload_n 0, 1) := by decide +kernel
theorem dX7_init_60 : decode cX7_init 60 = .ok (.new 36, 3) := by decide +kernel
theorem dX7_init_63 : decode cX7_init 63 = .ok (.dup, 1) := by decide +kernel
theorem dX7_init_64 : decode cX7_init 64 = .ok (.invokespecial 38, 3) := by decide +kernel
theorem dX7_init_67 : decode cX7_init 67 = .ok (.putfield 39, 3) := by decide +kernel
theorem dX7_init_70 : decode cX7_init 70 = .ok (.aload_n 0, 1) := by decide +kernel
theorem dX7_init_71 : decode cX7_init 71 = .ok (.iconst 0, 1) := by decide +kernel
theorem dX7_init_72 : decode cX7_init 72 = .ok (.putfield 43, 3) := by decide +kernel
theorem dX7_init_75 : decode cX7_init 75 = .ok (.return_, 1) := by decide +kernel
theorem dX7_setRate_0 : decode cX7_setRate 0 = .ok (.iload_n 1, 1) := by decide +kernel
theorem dX7_setRate_1 : decode cX7_setRate 1 = .ok (.ifCond .lt 8, 3) := by decide +kernel
theorem dX7_setRate_4 : decode cX7_setRate 4 = .ok (.iload_n 1, 1) := by decide +kernel
theorem dX7_setRate_5 : decode cX7_setRate 5 = .ok (.iconst 3, 1) := by decide +kernel
theorem dX7_setRate_6 : decode cX7_setRate 6 = .ok (.if_icmp .lt 5, 3) := by decide +kernel
theorem dX7_setRate_9 : decode cX7_setRate 9 = .ok (.iconst (-1), 1) := by decide +kernel
theorem dX7_setRate_10 : decode cX7_setRate 10 = .ok (.ireturn, 1) := by decide +kernel
theorem dX7_setRate_11 : decode cX7_setRate 11 = .ok (.iload_n 2, 1) := by decide +kernel
theorem dX7_setRate_12 : decode cX7_setRate 12 = .ok (.getstatic 47, 3) := by decide +kernel
theorem dX7_setRate_15 : decode cX7_setRate 15 = .ok (.iload_n 1, 1) := by decide +kernel
theorem dX7_setRate_16 : decode cX7_setRate 16 = .ok (.iaload, 1) := by decide +kernel
theorem dX7_setRate_17 : decode cX7_setRate 17 = .ok (.if_icmp .lt 12, 3) := by decide +kernel
theorem dX7_setRate_20 : decode cX7_setRate 20 = .ok (.iload_n 2, 1) := by decide +kernel
theorem dX7_setRate_21 : decode cX7_setRate 21 = .ok (.getstatic 51, 3) := by decide +kernel
theorem dX7_setRate_24 : decode cX7_setRate 24 = .ok (.iload_n 1, 1) := by decide +kernel
theorem dX7_setRate_25 : decode cX7_setRate 25 = .ok (.iaload, 1) := by decide +kernel
theorem dX7_setRate_26 : decode cX7_setRate 26 = .ok (.if_icmp .le 6, 3) := by decide +kernel
theorem dX7_setRate_29 : decode cX7_setRate 29 = .ok (.bipush (-2), 2) := by decide +kernel
theorem dX7_setRate_31 : decode cX7_setRate 31 = .ok (.ireturn, 1) := by decide +kernel
theorem dX7_setRate_32 : decode cX7_setRate 32 = .ok (.iload_n 2, 1) := by decide +kernel
theorem dX7_setRate_33 : decode cX7_setRate 33 = .ok (.invokestatic 54, 3) := by decide +kernel
theorem dX7_setRate_36 : decode cX7_setRate 36 = .ok (.fstore_n 3, 1) := by decide +kernel
theorem dX7_setRate_37 : decode cX7_setRate 37 = .ok (.aload_n 0, 1) := by decide +kernel
theorem dX7_setRate_38 : decode cX7_setRate 38 = .ok (.getfield 10, 3) := by decide +kernel
theorem dX7_setRate_41 : decode cX7_setRate 41 = .ok (.getfield 58, 3) := by decide +kernel
theorem dX7_setRate_44 : decode cX7_setRate 44 = .ok (.iload_n 1, 1) := by decide +kernel
theorem dX7_setRate_45 : decode cX7_setRate 45 = .ok (.faload, 1) := by decide +kernel
theorem dX7_setRate_46 : decode cX7_setRate 46 = .ok (.fload_n 3, 1) := by decide +kernel
theorem dX7_setRate_47 : decode cX7_setRate 47 = .ok (.fcmp .l, 1) := by decide +kernel
theorem dX7_setRate_48 : decode cX7_setRate 48 = .ok (.ifCond .ne 6, 3) := by decide +kernel
theorem dX7_setRate_51 : decode cX7_setRate 51 = .ok (.bipush (-5), 2) := by decide +kernel
theorem dX7_setRate_53 : decode cX7_setRate 53 = .ok (.ireturn, 1) := by decide +kernel
theorem dX7_setRate_54 : decode cX7_setRate 54 = .ok (.aload_n 0, 1) := by decide +kernel
theorem dX7_setRate_55 : decode cX7_setRate 55 = .ok (.getfield 25, 3) := by decide +kernel
theorem dX7_setRate_58 : decode cX7_setRate 58 = .ok (.aload_n 0, 1) := by decide +kernel
theorem dX7_setRate_59 : decode cX7_setRate 59 = .ok (.getfield 10, 3) := by decide +kernel
theorem dX7_setRate_62 : decode cX7_setRate 62 = .ok (.invokevirtual 62, 3) := by decide +kernel
theorem dX7_setRate_65 : decode cX7_setRate 65 = .ok (.aload_n 0, 1) := by decide +kernel
theorem dX7_setRate_66 : decode cX7_setRate 66 = .ok (.getfield 10, 3) := by decide +kernel
theorem dX7_setRate_69 : decode cX7_setRate 69 = .ok (.getfield 58, 3) := by decide +kernel
theorem dX7_setRate_72 : decode cX7_setRate 72 = .ok (.iload_n 1, 1) := by decide +kernel
theorem dX7_setRate_73 : decode cX7_setRate 73 = .ok (.fload_n 3, 1) := by decide +kernel
theorem dX7_setRate_74 : decode cX7_setRate 74 = .ok (.fastore, 1) := by decide +kernel
theorem dX7_setRate_75 : decode cX7_setRate 75 = .ok (.iconst 1, 1) := by decide +kernel
theorem dX7_setRate_76 : decode cX7_setRate 76 = .ok (.ireturn, 1) := by decide +kernel
theorem dX7_setNumber_0 : decode cX7_setNumber 0 = .ok (.iload_n 1, 1) := by decide +kernel
theorem dX7_setNumber_1 : decode cX7_setNumber 1 = .ok (.ifCond .lt 8, 3) := by decide +kernel
theorem dX7_setNumber_4 : decode cX7_setNumber 4 = .ok (.iload_n 1, 1) := by decide +kernel
theorem dX7_setNumber_5 : decode cX7_setNumber 5 = .ok (.iconst 3, 1) := by decide +kernel
theorem dX7_setNumber_6 : decode cX7_setNumber 6 = .ok (.if_icmp .lt 5, 3) := by decide +kernel
theorem dX7_setNumber_9 : decode cX7_setNumber 9 = .ok (.iconst (-1), 1) := by decide +kernel
theorem dX7_setNumber_10 : decode cX7_setNumber 10 = .ok (.ireturn, 1) := by decide +kernel
theorem dX7_setNumber_11 : decode cX7_setNumber 11 = .ok (.iload_n 2, 1) := by decide +kernel
theorem dX7_setNumber_12 : decode cX7_setNumber 12 = .ok (.getstatic 66, 3) := by decide +kernel
theorem dX7_setNumber_15 : decode cX7_setNumber 15 = .ok (.iload_n 1, 1) := by decide +kernel
theorem dX7_setNumber_16 : decode cX7_setNumber 16 = .ok (.iaload, 1) := by decide +kernel
theorem dX7_setNumber_17 : decode cX7_setNumber 17 = .ok (.if_icmp .lt 12, 3) := by decide +kernel
theorem dX7_setNumber_20 : decode cX7_setNumber 20 = .ok (.iload_n 2, 1) := by decide +kernel
theorem dX7_setNumber_21 : decode cX7_setNumber 21 = .ok (.getstatic 69, 3) := by decide +kernel
theorem dX7_setNumber_24 : decode cX7_setNumber 24 = .ok (.iload_n 1, 1) := by decide +kernel
theorem dX7_setNumber_25 : decode cX7_setNumber 25 = .ok (.iaload, 1) := by decide +kernel
theorem dX7_setNumber_26 : decode cX7_setNumber 26 = .ok (.if_icmp .le 6, 3) := by decide +kernel
theorem dX7_setNumber_29 : decode cX7_setNumber 29 = .ok (.bipush (-2), 2) := by decide +kernel
theorem dX7_setNumber_31 : decode cX7_setNumber 31 = .ok (.ireturn, 1) := by decide +kernel
theorem dX7_setNumber_32 : decode cX7_setNumber 32 = .ok (.aload_n 0, 1) := by decide +kernel
theorem dX7_setNumber_33 : decode cX7_setNumber 33 = .ok (.getfield 10, 3) := by decide +kernel
theorem dX7_setNumber_36 : decode cX7_setNumber 36 = .ok (.getfield 72, 3) := by decide +kernel
theorem dX7_setNumber_39 : decode cX7_setNumber 39 = .ok (.iload_n 1, 1) := by decide +kernel
theorem dX7_setNumber_40 : decode cX7_setNumber 40 = .ok (.iaload, 1) := by decide +kernel
theorem dX7_setNumber_41 : decode cX7_setNumber 41 = .ok (.istore_n 3, 1) := by decide +kernel
theorem dX7_setNumber_42 : decode cX7_setNumber 42 = .ok (.iload_n 3, 1) := by decide +kernel
theorem dX7_setNumber_43 : decode cX7_setNumber 43 = .ok (.iload_n 2, 1) := by decide +kernel
theorem dX7_setNumber_44 : decode cX7_setNumber 44 = .ok (.if_icmp .ne 6, 3) := by decide +kernel
theorem dX7_setNumber_47 : decode cX7_setNumber 47 = .ok (.bipush (-5), 2) := by decide +kernel
theorem dX7_setNumber_49 : decode cX7_setNumber 49 = .ok (.ireturn, 1) := by decide +kernel
theorem dX7_setNumber_50 : decode cX7_setNumber 50 = .ok (.aload_n 0, 1) := by decide +kernel
theorem dX7_setNumber_51 : decode cX7_setNumber 51 = .ok (.getfield 25, 3) := by decide +kernel
theorem dX7_setNumber_54 : decode cX7_setNumber 54 = .ok (.aload_n 0, 1) := by decide +kernel
theorem dX7_setNumber_55 : decode cX7_setNumber 55 = .ok (.getfield 10, 3) := by decide +kernel
theorem dX7_setNumber_58 : decode cX7_setNumber 58 = .ok (.invokevirtual 62, 3) := by decide +kernel
theorem dX7_setNumber_61 : decode cX7_setNumber 61 = .ok (.aload_n 0, 1) := by decide +kernel
theorem dX7_setNumber_62 : decode cX7_setNumber 62 = .ok (.getfield 10, 3) := by decide +kernel
theorem dX7_setNumber_65 : decode cX7_setNumber 65 = .ok (.getfield 72, 3) := by decide +kernel
theorem dX7_setNumber_68 : decode cX7_setNumber 68 = .ok (.iload_n 1, 1) := by decide +kernel
theorem dX7_setNumber_69 : decode cX7_setNumber 69 = .ok (.iload_n 2, 1) := by decide +kernel
theorem dX7_setNumber_70 : decode cX7_setNumber 70 = .ok (.iastore, 1) := by decide +kernel
theorem dX7_setNumber_71 : decode cX7_setNumber 71 = .ok (.iload_n 3, 1) := by decide +kernel
theorem dX7_setNumber_72 : decode cX7_setNumber 72 = .ok (.ireturn, 1) := by decide +kernel
theorem dX7_addMember_0 : decode cX7_addMember 0 = .ok (.iload_n 1, 1) := by decide +kernel
theorem dX7_addMember_1 : decode cX7_addMember 1 = .ok (.iconst 1, 1) := by decide +kernel
theorem dX7_addMember_2 : decode cX7_addMember 2 = .ok (.if_icmp .lt 9, 3) := by decide +kernel
theorem dX7_addMember_5 : decode cX7_addMember 5 = .ok (.iload_n 1, 1) := by decide +kernel
theorem dX7_addMember_6 : decode cX7_addMember 6 = .ok (.bipush 9, 2) := by decide +kernel
theorem dX7_addMember_8 : decode cX7_addMember 8 = .ok (.if_icmp .le 6, 3) := by decide +kernel
theorem dX7_addMember_11 : decode cX7_addMember 11 = .ok (.bipush (-2), 2) := by decide +kernel
theorem dX7_addMember_13 : decode cX7_addMember 13 = .ok (.ireturn, 1) := by decide +kernel
theorem dX7_addMember_14 : decode cX7_addMember 14 = .ok (.aload_n 0, 1) := by decide +kernel
theorem dX7_addMember_15 : decode cX7_addMember 15 = .ok (.getfield 10, 3) := by decide +kernel
theorem dX7_addMember_18 : decode cX7_addMember 18 = .ok (.getfield 75, 3) := by decide +kernel
theorem dX7_addMember_21 : decode cX7_addMember 21 = .ok (.getfield 79, 3) := by decide +kernel
theorem dX7_addMember_24 : decode cX7_addMember 24 = .ok (.bipush 8, 2) := by decide +kernel
theorem dX7_addMember_26 : decode cX7_addMember 26 = .ok (.if_icmp .lt 6, 3) := by decide +kernel
theorem dX7_addMember_29 : decode cX7_addMember 29 = .ok (.bipush (-3), 2) := by decide +kernel
theorem dX7_addMember_31 : decode cX7_addMember 31 = .ok (.ireturn, 1) := by decide +kernel
theorem dX7_addMember_32 : decode cX7_addMember 32 = .ok (.aload_n 0, 1) := by decide +kernel
theorem dX7_addMember_33 : decode cX7_addMember 33 = .ok (.getfield 25, 3) := by decide +kernel
theorem dX7_addMember_36 : decode cX7_addMember 36 = .ok (.aload_n 0, 1) := by decide +kernel
theorem dX7_addMember_37 : decode cX7_addMember 37 = .ok (.getfield 10, 3) := by decide +kernel
theorem dX7_addMember_40 : decode cX7_addMember 40 = .ok (.invokevirtual 62, 3) := by decide +kernel
theorem dX7_addMember_43 : decode cX7_addMember 43 = .ok (.aload_n 0, 1) := by decide +kernel
theorem dX7_addMember_44 : decode cX7_addMember 44 = .ok (.getfield 10, 3) := by decide +kernel
theorem dX7_addMember_47 : decode cX7_addMember 47 = .ok (.getfield 75, 3) := by decide +kernel
theorem dX7_addMember_50 : decode cX7_addMember 50 = .ok (.iload_n 1, 1) := by decide +kernel
theorem dX7_addMember_51 : decode cX7_addMember 51 = .ok (.invokevirtual 84, 3) := by decide +kernel
theorem dX7_addMember_54 : decode cX7_addMember 54 = .ok (.ireturn, 1) := by decide +kernel
theorem dX7_payDues_0 : decode cX7_payDues 0 = .ok (.aload_n 0, 1) := by decide +kernel
theorem dX7_payDues_1 : decode cX7_payDues 1 = .ok (.getfield 10, 3) := by decide +kernel
theorem dX7_payDues_4 : decode cX7_payDues 4 = .ok (.getfield 75, 3) := by decide +kernel
theorem dX7_payDues_7 : decode cX7_payDues 7 = .ok (.astore_n 3, 1) := by decide +kernel
theorem dX7_payDues_8 : decode cX7_payDues 8 = .ok (.aload_n 3, 1) := by decide +kernel
theorem dX7_payDues_9 : decode cX7_payDues 9 = .ok (.iload_n 1, 1) := by decide +kernel
theorem dX7_payDues_10 : decode cX7_payDues 10 = .ok (.invokevirtual 88, 3) := by decide +kernel
theorem dX7_payDues_13 : decode cX7_payDues 13 = .ok (.ifCond .ne 5, 3) := by decide +kernel
theorem dX7_payDues_16 : decode cX7_payDues 16 = .ok (.iconst (-1), 1) := by decide +kernel
theorem dX7_payDues_17 : decode cX7_payDues 17 = .ok (.ireturn, 1) := by decide +kernel
theorem dX7_payDues_18 : decode cX7_payDues 18 = .ok (.iload_n 2, 1) := by decide +kernel
theorem dX7_payDues_19 : decode cX7_payDues 19 = .ok (.iconst 1, 1) := by decide +kernel
theorem dX7_payDues_20 : decode cX7_payDues 20 = .ok (.if_icmp .lt 9, 3) := by decide +kernel
theorem dX7_payDues_23 : decode cX7_payDues 23 = .ok (.iload_n 2, 1) := by decide +kernel
theorem dX7_payDues_24 : decode cX7_payDues 24 = .ok (.ldc 92, 2) := by decide +kernel
theorem dX7_payDues_26 : decode cX7_payDues 26 = .ok (.if_icmp .le 6, 3) := by decide +kernel
theorem dX7_payDues_29 : decode cX7_payDues 29 = .ok (.bipush (-2), 2) := by decide +kernel
theorem dX7_payDues_31 : decode cX7_payDues 31 = .ok (.ireturn, 1) := by decide +kernel
theorem dX7_payDues_32 : decode cX7_payDues 32 = .ok (.aload_n 3, 1) := by decide +kernel
theorem dX7_payDues_33 : decode cX7_payDues 33 = .ok (.getfield 93, 3) := by decide +kernel
theorem dX7_payDues_36 : decode cX7_payDues 36 = .ok (.iload_n 1, 1) := by decide +kernel
theorem dX7_payDues_37 : decode cX7_payDues 37 = .ok (.iaload, 1) := by decide +kernel
theorem dX7_payDues_38 : decode cX7_payDues 38 = .ok (.iload_n 2, 1) := by decide +kernel
theorem dX7_payDues_39 : decode cX7_payDues 39 = .ok (.iadd, 1) := by decide +kernel
theorem dX7_payDues_40 : decode cX7_payDues 40 = .ok (.ldc 96, 2) := by decide +kernel
theorem dX7_payDues_42 : decode cX7_payDues 42 = .ok (.if_icmp .le 6, 3) := by decide +kernel
theorem dX7_payDues_45 : decode cX7_payDues 45 = .ok (.bipush (-3), 2) := by decide +kernel
theorem dX7_payDues_47 : decode cX7_payDues 47 = .ok (.ireturn, 1) := by decide +kernel
theorem dX7_payDues_48 : decode cX7_payDues 48 = .ok (.aload_n 0, 1) := by decide +kernel
theorem dX7_payDues_49 : decode cX7_payDues 49 = .ok (.getfield 25, 3) := by decide +kernel
theorem dX7_payDues_52 : decode cX7_payDues 52 = .ok (.aload_n 0, 1) := by decide +kernel
theorem dX7_payDues_53 : decode cX7_payDues 53 = .ok (.getfield 10, 3) := by decide +kernel
theorem dX7_payDues_56 : decode cX7_payDues 56 = .ok (.invokevirtual 62, 3) := by decide +kernel
theorem dX7_payDues_59 : decode cX7_payDues 59 = .ok (.aload_n 3, 1) := by decide +kernel
theorem dX7_payDues_60 : decode cX7_payDues 60 = .ok (.getfield 93, 3) := by decide +kernel
theorem dX7_payDues_63 : decode cX7_payDues 63 = .ok (.iload_n 1, 1) := by decide +kernel
theorem dX7_payDues_64 : decode cX7_payDues 64 = .ok (.dup2, 1) := by decide +kernel
theorem dX7_payDues_65 : decode cX7_payDues 65 = .ok (.iaload, 1) := by decide +kernel
theorem dX7_payDues_66 : decode cX7_payDues 66 = .ok (.iload_n 2, 1) := by decide +kernel
theorem dX7_payDues_67 : decode cX7_payDues 67 = .ok (.iadd, 1) := by decide +kernel
theorem dX7_payDues_68 : decode cX7_payDues 68 = .ok (.iastore, 1) := by decide +kernel
theorem dX7_payDues_69 : decode cX7_payDues 69 = .ok (.aload_n 0, 1) := by decide +kernel
theorem dX7_payDues_70 : decode cX7_payDues 70 = .ok (.getfield 10, 3) := by decide +kernel
theorem dX7_payDues_73 : decode cX7_payDues 73 = .ok (.dup, 1) := by decide +kernel
theorem dX7_payDues_74 : decode cX7_payDues 74 = .ok (.getfield 97, 3) := by decide +kernel
theorem dX7_payDues_77 : decode cX7_payDues 77 = .ok (.iload_n 2, 1) := by decide +kernel
theorem dX7_payDues_78 : decode cX7_payDues 78 = .ok (.iadd, 1) := by decide +kernel
theorem dX7_payDues_79 : decode cX7_payDues 79 = .ok (.putfield 97, 3) := by decide +kernel
theorem dX7_payDues_82 : decode cX7_payDues 82 = .ok (.aload_n 3, 1) := by decide +kernel
theorem dX7_payDues_83 : decode cX7_payDues 83 = .ok (.getfield 93, 3) := by decide +kernel
theorem dX7_payDues_86 : decode cX7_payDues 86 = .ok (.iload_n 1, 1) := by decide +kernel
theorem dX7_payDues_87 : decode cX7_payDues 87 = .ok (.iaload, 1) := by decide +kernel
theorem dX7_payDues_88 : decode cX7_payDues 88 = .ok (.ireturn, 1) := by decide +kernel
theorem dX7_addInvoice_0 : decode cX7_addInvoice 0 = .ok (.aload_n 0, 1) := by decide +kernel
theorem dX7_addInvoice_1 : decode cX7_addInvoice 1 = .ok (.getfield 10, 3) := by decide +kernel
theorem dX7_addInvoice_4 : decode cX7_addInvoice 4 = .ok (.getfield 75, 3) := by decide +kernel
theorem dX7_addInvoice_7 : decode cX7_addInvoice 7 = .ok (.iload_n 1, 1) := by decide +kernel
theorem dX7_addInvoice_8 : decode cX7_addInvoice 8 = .ok (.invokevirtual 88, 3) := by decide +kernel
theorem dX7_addInvoice_11 : decode cX7_addInvoice 11 = .ok (.ifCond .eq 17, 3) := by decide +kernel
theorem dX7_addInvoice_14 : decode cX7_addInvoice 14 = .ok (.aload_n 0, 1) := by decide +kernel
theorem dX7_addInvoice_15 : decode cX7_addInvoice 15 = .ok (.getfield 10, 3) := by decide +kernel
theorem dX7_addInvoice_18 : decode cX7_addInvoice 18 = .ok (.getfield 100, 3) := by decide +kernel
theorem dX7_addInvoice_21 : decode cX7_addInvoice 21 = .ok (.iload_n 2, 1) := by decide +kernel
theorem dX7_addInvoice_22 : decode cX7_addInvoice 22 = .ok (.invokevirtual 104, 3) := by decide +kernel
theorem dX7_addInvoice_25 : decode cX7_addInvoice 25 = .ok (.ifCond .ne 5, 3) := by decide +kernel
theorem dX7_addInvoice_28 : decode cX7_addInvoice 28 = .ok (.iconst (-1), 1) := by decide +kernel
theorem dX7_addInvoice_29 : decode cX7_addInvoice 29 = .ok (.ireturn, 1) := by decide +kernel
theorem dX7_addInvoice_30 : decode cX7_addInvoice 30 = .ok (.iload_n 3, 1) := by decide +kernel
theorem dX7_addInvoice_31 : decode cX7_addInvoice 31 = .ok (.bipush 100, 2) := by decide +kernel
theorem dX7_addInvoice_33 : decode cX7_addInvoice 33 = .ok (.if_icmp .lt 9, 3) := by decide +kernel
theorem dX7_addInvoice_36 : decode cX7_addInvoice 36 = .ok (.iload_n 3, 1) := by decide +kernel
theorem dX7_addInvoice_37 : decode cX7_addInvoice 37 = .ok (.ldc 92, 2) := by decide +kernel
theorem dX7_addInvoice_39 : decode cX7_addInvoice 39 = .ok (.if_icmp .le 6, 3) := by decide +kernel
theorem dX7_addInvoice_42 : decode cX7_addInvoice 42 = .ok (.bipush (-2), 2) := by decide +kernel
theorem dX7_addInvoice_44 : decode cX7_addInvoice 44 = .ok (.ireturn, 1) := by decide +kernel
theorem dX7_addInvoice_45 : decode cX7_addInvoice 45 = .ok (.iload 4, 2) := by decide +kernel
theorem dX7_addInvoice_47 : decode cX7_addInvoice 47 = .ok (.ifCond .lt 11, 3) := by decide +kernel
theorem dX7_addInvoice_50 : decode cX7_addInvoice 50 = .ok (.iload 4, 2) := by decide +kernel
theorem dX7_addInvoice_52 : decode cX7_addInvoice 52 = .ok (.sipush 9999, 3) := by decide +kernel
theorem dX7_addInvoice_55 : decode cX7_addInvoice 55 = .ok (.if_icmp .le 6, 3) := by decide +kernel
theorem dX7_addInvoice_58 : decode cX7_addInvoice 58 = .ok (.bipush (-2), 2) := by decide +kernel
theorem dX7_addInvoice_60 : decode cX7_addInvoice 60 = .ok (.ireturn, 1) := by decide +kernel
theorem dX7_addInvoice_61 : decode cX7_addInvoice 61 = .ok (.aload_n 0, 1) := by decide +kernel
theorem dX7_addInvoice_62 : decode cX7_addInvoice 62 = .ok (.getfield 10, 3) := by decide +kernel
theorem dX7_addInvoice_65 : decode cX7_addInvoice 65 = .ok (.getfield 107, 3) := by decide +kernel
theorem dX7_addInvoice_68 : decode cX7_addInvoice 68 = .ok (.getfield 111, 3) := by decide +kernel
theorem dX7_addInvoice_71 : decode cX7_addInvoice 71 = .ok (.bipush 20, 2) := by decide +kernel
theorem dX7_addInvoice_73 : decode cX7_addInvoice 73 = .ok (.if_icmp .lt 6, 3) := by decide +kernel
theorem dX7_addInvoice_76 : decode cX7_addInvoice 76 = .ok (.bipush (-3), 2) := by decide +kernel
theorem dX7_addInvoice_78 : decode cX7_addInvoice 78 = .ok (.ireturn, 1) := by decide +kernel
theorem dX7_addInvoice_79 : decode cX7_addInvoice 79 = .ok (.aload_n 0, 1) := by decide +kernel
theorem dX7_addInvoice_80 : decode cX7_addInvoice 80 = .ok (.getfield 25, 3) := by decide +kernel
theorem dX7_addInvoice_83 : decode cX7_addInvoice 83 = .ok (.aload_n 0, 1) := by decide +kernel
theorem dX7_addInvoice_84 : decode cX7_addInvoice 84 = .ok (.getfield 10, 3) := by decide +kernel
theorem dX7_addInvoice_87 : decode cX7_addInvoice 87 = .ok (.invokevirtual 62, 3) := by decide +kernel
theorem dX7_addInvoice_90 : decode cX7_addInvoice 90 = .ok (.aload_n 0, 1) := by decide +kernel
theorem dX7_addInvoice_91 : decode cX7_addInvoice 91 = .ok (.getfield 10, 3) := by decide +kernel
theorem dX7_addInvoice_94 : decode cX7_addInvoice 94 = .ok (.getfield 107, 3) := by decide +kernel
theorem dX7_addInvoice_97 : decode cX7_addInvoice 97 = .ok (.iload_n 1, 1) := by decide +kernel
theorem dX7_addInvoice_98 : decode cX7_addInvoice 98 = .ok (.iload_n 2, 1) := by decide +kernel
theorem dX7_addInvoice_99 : decode cX7_addInvoice 99 = .ok (.iload_n 3, 1) := by decide +kernel
theorem dX7_addInvoice_100 : decode cX7_addInvoice 100 = .ok (.iload 4, 2) := by decide +kernel
theorem dX7_addInvoice_102 : decode cX7_addInvoice 102 = .ok (.invokevirtual 114, 3) := by decide +kernel
theorem dX7_addInvoice_105 : decode cX7_addInvoice 105 = .ok (.ireturn, 1) := by decide +kernel
theorem dX7_payAhead_0 : decode cX7_payAhead 0 = .ok (.aload_n 0, 1) := by decide +kernel
theorem dX7_payAhead_1 : decode cX7_payAhead 1 = .ok (.getfield 10, 3) := by decide +kernel
theorem dX7_payAhead_4 : decode cX7_payAhead 4 = .ok (.getfield 107, 3) := by decide +kernel
theorem dX7_payAhead_7 : decode cX7_payAhead 7 = .ok (.iload_n 1, 1) := by decide +kernel
theorem dX7_payAhead_8 : decode cX7_payAhead 8 = .ok (.invokevirtual 117, 3) := by decide +kernel
theorem dX7_payAhead_11 : decode cX7_payAhead 11 = .ok (.ifCond .ne 5, 3) := by decide +kernel
theorem dX7_payAhead_14 : decode cX7_payAhead 14 = .ok (.iconst (-1), 1) := by decide +kernel
theorem dX7_payAhead_15 : decode cX7_payAhead 15 = .ok (.ireturn, 1) := by decide +kernel
theorem dX7_payAhead_16 : decode cX7_payAhead 16 = .ok (.aload_n 0, 1) := by decide +kernel
theorem dX7_payAhead_17 : decode cX7_payAhead 17 = .ok (.getfield 10, 3) := by decide +kernel
theorem dX7_payAhead_20 : decode cX7_payAhead 20 = .ok (.iload_n 1, 1) := by decide +kernel
theorem dX7_payAhead_21 : decode cX7_payAhead 21 = .ok (.invokevirtual 118, 3) := by decide +kernel
theorem dX7_payAhead_24 : decode cX7_payAhead 24 = .ok (.ifCond .ne 6, 3) := by decide +kernel
theorem dX7_payAhead_27 : decode cX7_payAhead 27 = .ok (.bipush (-4), 2) := by decide +kernel
theorem dX7_payAhead_29 : decode cX7_payAhead 29 = .ok (.ireturn, 1) := by decide +kernel
theorem dX7_payAhead_30 : decode cX7_payAhead 30 = .ok (.aload_n 0, 1) := by decide +kernel
theorem dX7_payAhead_31 : decode cX7_payAhead 31 = .ok (.getfield 25, 3) := by decide +kernel
theorem dX7_payAhead_34 : decode cX7_payAhead 34 = .ok (.aload_n 0, 1) := by decide +kernel
theorem dX7_payAhead_35 : decode cX7_payAhead 35 = .ok (.getfield 10, 3) := by decide +kernel
theorem dX7_payAhead_38 : decode cX7_payAhead 38 = .ok (.invokevirtual 62, 3) := by decide +kernel
theorem dX7_payAhead_41 : decode cX7_payAhead 41 = .ok (.aload_n 0, 1) := by decide +kernel
theorem dX7_payAhead_42 : decode cX7_payAhead 42 = .ok (.getfield 10, 3) := by decide +kernel
theorem dX7_payAhead_45 : decode cX7_payAhead 45 = .ok (.iload_n 1, 1) := by decide +kernel
theorem dX7_payAhead_46 : decode cX7_payAhead 46 = .ok (.invokevirtual 121, 3) := by decide +kernel
theorem dX7_payAhead_49 : decode cX7_payAhead 49 = .ok (.ireturn, 1) := by decide +kernel
theorem dX7_pay_0 : decode cX7_pay 0 = .ok (.aload_n 0, 1) := by decide +kernel
theorem dX7_pay_1 : decode cX7_pay 1 = .ok (.getfield 10, 3) := by decide +kernel
theorem dX7_pay_4 : decode cX7_pay 4 = .ok (.iload_n 1, 1) := by decide +kernel
theorem dX7_pay_5 : decode cX7_pay 5 = .ok (.iload_n 2, 1) := by decide +kernel
theorem dX7_pay_6 : decode cX7_pay 6 = .ok (.invokevirtual 124, 3) := by decide +kernel
theorem dX7_pay_9 : decode cX7_pay 9 = .ok (.istore_n 3, 1) := by decide +kernel
theorem dX7_pay_10 : decode cX7_pay 10 = .ok (.iload_n 3, 1) := by decide +kernel
theorem dX7_pay_11 : decode cX7_pay 11 = .ok (.ifCond .eq 5, 3) := by decide +kernel
theorem dX7_pay_14 : decode cX7_pay 14 = .ok (.iload_n 3, 1) := by decide +kernel
theorem dX7_pay_15 : decode cX7_pay 15 = .ok (.ireturn, 1) := by decide +kernel
theorem dX7_pay_16 : decode cX7_pay 16 = .ok (.aload_n 0, 1) := by decide +kernel
theorem dX7_pay_17 : decode cX7_pay 17 = .ok (.getfield 25, 3) := by decide +kernel
theorem dX7_pay_20 : decode cX7_pay 20 = .ok (.aload_n 0, 1) := by decide +kernel
theorem dX7_pay_21 : decode cX7_pay 21 = .ok (.getfield 10, 3) := by decide +kernel
theorem dX7_pay_24 : decode cX7_pay 24 = .ok (.invokevirtual 62, 3) := by decide +kernel
theorem dX7_pay_27 : decode cX7_pay 27 = .ok (.aload_n 0, 1) := by decide +kernel
theorem dX7_pay_28 : decode cX7_pay 28 = .ok (.getfield 10, 3) := by decide +kernel
theorem dX7_pay_31 : decode cX7_pay 31 = .ok (.iload_n 1, 1) := by decide +kernel
theorem dX7_pay_32 : decode cX7_pay 32 = .ok (.iload_n 2, 1) := by decide +kernel
theorem dX7_pay_33 : decode cX7_pay 33 = .ok (.invokevirtual 128, 3) := by decide +kernel
theorem dX7_pay_36 : decode cX7_pay 36 = .ok (.ireturn, 1) := by decide +kernel
theorem dX7_giveUp_0 : decode cX7_giveUp 0 = .ok (.aload_n 0, 1) := by decide +kernel
theorem dX7_giveUp_1 : decode cX7_giveUp 1 = .ok (.getfield 10, 3) := by decide +kernel
theorem dX7_giveUp_4 : decode cX7_giveUp 4 = .ok (.getfield 107, 3) := by decide +kernel
theorem dX7_giveUp_7 : decode cX7_giveUp 7 = .ok (.iload_n 1, 1) := by decide +kernel
theorem dX7_giveUp_8 : decode cX7_giveUp 8 = .ok (.invokevirtual 117, 3) := by decide +kernel
theorem dX7_giveUp_11 : decode cX7_giveUp 11 = .ok (.ifCond .ne 5, 3) := by decide +kernel
theorem dX7_giveUp_14 : decode cX7_giveUp 14 = .ok (.iconst (-1), 1) := by decide +kernel
theorem dX7_giveUp_15 : decode cX7_giveUp 15 = .ok (.ireturn, 1) := by decide +kernel
theorem dX7_giveUp_16 : decode cX7_giveUp 16 = .ok (.aload_n 0, 1) := by decide +kernel
theorem dX7_giveUp_17 : decode cX7_giveUp 17 = .ok (.getfield 10, 3) := by decide +kernel
theorem dX7_giveUp_20 : decode cX7_giveUp 20 = .ok (.iload_n 1, 1) := by decide +kernel
theorem dX7_giveUp_21 : decode cX7_giveUp 21 = .ok (.invokevirtual 131, 3) := by decide +kernel
theorem dX7_giveUp_24 : decode cX7_giveUp 24 = .ok (.ifCond .ne 6, 3) := by decide +kernel
theorem dX7_giveUp_27 : decode cX7_giveUp 27 = .ok (.bipush (-4), 2) := by decide +kernel
theorem dX7_giveUp_29 : decode cX7_giveUp 29 = .ok (.ireturn, 1) := by decide +kernel
theorem dX7_giveUp_30 : decode cX7_giveUp 30 = .ok (.aload_n 0, 1) := by decide +kernel
theorem dX7_giveUp_31 : decode cX7_giveUp 31 = .ok (.getfield 25, 3) := by decide +kernel
theorem dX7_giveUp_34 : decode cX7_giveUp 34 = .ok (.aload_n 0, 1) := by decide +kernel
theorem dX7_giveUp_35 : decode cX7_giveUp 35 = .ok (.getfield 10, 3) := by decide +kernel
theorem dX7_giveUp_38 : decode cX7_giveUp 38 = .ok (.invokevirtual 62, 3) := by decide +kernel
theorem dX7_giveUp_41 : decode cX7_giveUp 41 = .ok (.aload_n 0, 1) := by decide +kernel
theorem dX7_giveUp_42 : decode cX7_giveUp 42 = .ok (.getfield 10, 3) := by decide +kernel
theorem dX7_giveUp_45 : decode cX7_giveUp 45 = .ok (.iload_n 1, 1) := by decide +kernel
theorem dX7_giveUp_46 : decode cX7_giveUp 46 = .ok (.invokevirtual 134, 3) := by decide +kernel
theorem dX7_giveUp_49 : decode cX7_giveUp 49 = .ok (.ireturn, 1) := by decide +kernel
theorem dX7_readPayments_0 : decode cX7_readPayments 0 = .ok (.aload_n 0, 1) := by decide +kernel
theorem dX7_readPayments_1 : decode cX7_readPayments 1 = .ok (.getfield 32, 3) := by decide +kernel
theorem dX7_readPayments_4 : decode cX7_readPayments 4 = .ok (.invokevirtual 137, 3) := by decide +kernel
theorem dX7_readPayments_7 : decode cX7_readPayments 7 = .ok (.istore_n 1, 1) := by decide +kernel
theorem dX7_readPayments_8 : decode cX7_readPayments 8 = .ok (.iload_n 1, 1) := by decide +kernel
theorem dX7_readPayments_9 : decode cX7_readPayments 9 = .ok (.iconst (-1), 1) := by decide +kernel
theorem dX7_readPayments_10 : decode cX7_readPayments 10 = .ok (.if_icmp .eq 8, 3) := by decide +kernel
theorem dX7_readPayments_13 : decode cX7_readPayments 13 = .ok (.bipush (-100), 2) := by decide +kernel
theorem dX7_readPayments_15 : decode cX7_readPayments 15 = .ok (.iload_n 1, 1) := by decide +kernel
theorem dX7_readPayments_16 : decode cX7_readPayments 16 = .ok (.isub, 1) := by decide +kernel
theorem dX7_readPayments_17 : decode cX7_readPayments 17 = .ok (.ireturn, 1) := by decide +kernel
theorem dX7_readPayments_18 : decode cX7_readPayments 18 = .ok (.aload_n 0, 1) := by decide +kernel
theorem dX7_readPayments_19 : decode cX7_readPayments 19 = .ok (.getfield 16, 3) := by decide +kernel
theorem dX7_readPayments_22 : decode cX7_readPayments 22 = .ok (.aload_n 0, 1) := by decide +kernel
theorem dX7_readPayments_23 : decode cX7_readPayments 23 = .ok (.getfield 10, 3) := by decide +kernel
theorem dX7_readPayments_26 : decode cX7_readPayments 26 = .ok (.invokevirtual 141, 3) := by decide +kernel
theorem dX7_readPayments_29 : decode cX7_readPayments 29 = .ok (.iconst 0, 1) := by decide +kernel
theorem dX7_readPayments_30 : decode cX7_readPayments 30 = .ok (.istore_n 2, 1) := by decide +kernel
theorem dX7_readPayments_31 : decode cX7_readPayments 31 = .ok (.iconst 0, 1) := by decide +kernel
theorem dX7_readPayments_32 : decode cX7_readPayments 32 = .ok (.istore_n 3, 1) := by decide +kernel
theorem dX7_readPayments_33 : decode cX7_readPayments 33 = .ok (.iload_n 3, 1) := by decide +kernel
theorem dX7_readPayments_34 : decode cX7_readPayments 34 = .ok (.aload_n 0, 1) := by decide +kernel
theorem dX7_readPayments_35 : decode cX7_readPayments 35 = .ok (.getfield 32, 3) := by decide +kernel
theorem dX7_readPayments_38 : decode cX7_readPayments 38 = .ok (.getfield 144, 3) := by decide +kernel
theorem dX7_readPayments_41 : decode cX7_readPayments 41 = .ok (.if_icmp .ge 89, 3) := by decide +kernel
theorem dX7_readPayments_44 : decode cX7_readPayments 44 = .ok (.aload_n 0, 1) := by decide +kernel
theorem dX7_readPayments_45 : decode cX7_readPayments 45 = .ok (.getfield 32, 3) := by decide +kernel
theorem dX7_readPayments_48 : decode cX7_readPayments 48 = .ok (.iload_n 3, 1) := by decide +kernel
theorem dX7_readPayments_49 : decode cX7_readPayments 49 = .ok (.invokevirtual 147, 3) := by decide +kernel
theorem dX7_readPayments_52 : decode cX7_readPayments 52 = .ok (.istore 4, 2) := by decide +kernel
theorem dX7_readPayments_54 : decode cX7_readPayments 54 = .ok (.aload_n 0, 1) := by decide +kernel
theorem dX7_readPayments_55 : decode cX7_readPayments 55 = .ok (.getfield 32, 3) := by decide +kernel
theorem dX7_readPayments_58 : decode cX7_readPayments 58 = .ok (.iload_n 3, 1) := by decide +kernel
theorem dX7_readPayments_59 : decode cX7_readPayments 59 = .ok (.invokevirtual 150, 3) := by decide +kernel
theorem dX7_readPayments_62 : decode cX7_readPayments 62 = .ok (.istore 5, 2) := by decide +kernel
theorem dX7_readPayments_64 : decode cX7_readPayments 64 = .ok (.aload_n 0, 1) := by decide +kernel
theorem dX7_readPayments_65 : decode cX7_readPayments 65 = .ok (.getfield 10, 3) := by decide +kernel
theorem dX7_readPayments_68 : decode cX7_readPayments 68 = .ok (.iload 4, 2) := by decide +kernel
theorem dX7_readPayments_70 : decode cX7_readPayments 70 = .ok (.iload 5, 2) := by decide +kernel
theorem dX7_readPayments_72 : decode cX7_readPayments 72 = .ok (.invokevirtual 124, 3) := by decide +kernel
theorem dX7_readPayments_75 : decode cX7_readPayments 75 = .ok (.istore 6, 2) := by decide +kernel
theorem dX7_readPayments_77 : decode cX7_readPayments 77 = .ok (.iload 6, 2) := by decide +kernel
theorem dX7_readPayments_79 : decode cX7_readPayments 79 = .ok (.ifCond .eq 28, 3) := by decide +kernel
theorem dX7_readPayments_82 : decode cX7_readPayments 82 = .ok (.aload_n 0, 1) := by decide +kernel
theorem dX7_readPayments_83 : decode cX7_readPayments 83 = .ok (.getfield 10, 3) := by decide +kernel
theorem dX7_readPayments_86 : decode cX7_readPayments 86 = .ok (.aload_n 0, 1) := by decide +kernel
theorem dX7_readPayments_87 : decode cX7_readPayments 87 = .ok (.getfield 16, 3) := by decide +kernel
theorem dX7_readPayments_90 : decode cX7_readPayments 90 = .ok (.invokevirtual 141, 3) := by decide +kernel
theorem dX7_readPayments_93 : decode cX7_readPayments 93 = .ok (.aload_n 0, 1) := by decide +kernel
theorem dX7_readPayments_94 : decode cX7_readPayments 94 = .ok (.iload_n 3, 1) := by decide +kernel
theorem dX7_readPayments_95 : decode cX7_readPayments 95 = .ok (.putfield 153, 3) := by decide +kernel
theorem dX7_readPayments_98 : decode cX7_readPayments 98 = .ok (.aload_n 0, 1) := by decide +kernel
theorem dX7_readPayments_99 : decode cX7_readPayments 99 = .ok (.iload 6, 2) := by decide +kernel
theorem dX7_readPayments_101 : decode cX7_readPayments 101 = .ok (.putfield 43, 3) := by decide +kernel
theorem dX7_readPayments_104 : decode cX7_readPayments 104 = .ok (.bipush (-4), 2) := by decide +kernel
theorem dX7_readPayments_106 : decode cX7_readPayments 106 = .ok (.ireturn, 1) := by decide +kernel
theorem dX7_readPayments_107 : decode cX7_readPayments 107 = .ok (.aload_n 0, 1) := by decide +kernel
theorem dX7_readPayments_108 : decode cX7_readPayments 108 = .ok (.getfield 10, 3) := by decide +kernel
theorem dX7_readPayments_111 : decode cX7_readPayments 111 = .ok (.iload 4, 2) := by decide +kernel
theorem dX7_readPayments_113 : decode cX7_readPayments 113 = .ok (.iload 5, 2) := by decide +kernel
theorem dX7_readPayments_115 : decode cX7_readPayments 115 = .ok (.invokevirtual 128, 3) := by decide +kernel
theorem dX7_readPayments_118 : decode cX7_readPayments 118 = .ok (.ifCond .ne 6, 3) := by decide +kernel
theorem dX7_readPayments_121 : decode cX7_readPayments 121 = .ok (.iinc 2 1, 3) := by decide +kernel
theorem dX7_readPayments_124 : decode cX7_readPayments 124 = .ok (.iinc 3 1, 3) := by decide +kernel
theorem dX7_readPayments_127 : decode cX7_readPayments 127 = .ok (.goto (-94), 3) := by decide +kernel
theorem dX7_readPayments_130 : decode cX7_readPayments 130 = .ok (.aload_n 0, 1) := by decide +kernel
theorem dX7_readPayments_131 : decode cX7_readPayments 131 = .ok (.getfield 25, 3) := by decide +kernel
theorem dX7_readPayments_134 : decode cX7_readPayments 134 = .ok (.aload_n 0, 1) := by decide +kernel
theorem dX7_readPayments_135 : decode cX7_readPayments 135 = .ok (.getfield 16, 3) := by decide +kernel
theorem dX7_readPayments_138 : decode cX7_readPayments 138 = .ok (.invokevirtual 62, 3) := by decide +kernel
theorem dX7_readPayments_141 : decode cX7_readPayments 141 = .ok (.iload_n 2, 1) := by decide +kernel
theorem dX7_readPayments_142 : decode cX7_readPayments 142 = .ok (.ireturn, 1) := by decide +kernel
theorem dX7_refusal_0 : decode cX7_refusal 0 = .ok (.iload_n 1, 1) := by decide +kernel
theorem dX7_refusal_1 : decode cX7_refusal 1 = .ok (.ifCond .lt 8, 3) := by decide +kernel
theorem dX7_refusal_4 : decode cX7_refusal 4 = .ok (.iload_n 1, 1) := by decide +kernel
theorem dX7_refusal_5 : decode cX7_refusal 5 = .ok (.iconst 1, 1) := by decide +kernel
theorem dX7_refusal_6 : decode cX7_refusal 6 = .ok (.if_icmp .le 6, 3) := by decide +kernel
theorem dX7_refusal_9 : decode cX7_refusal 9 = .ok (.bipush (-2), 2) := by decide +kernel
theorem dX7_refusal_11 : decode cX7_refusal 11 = .ok (.ireturn, 1) := by decide +kernel
theorem dX7_refusal_12 : decode cX7_refusal 12 = .ok (.aload_n 0, 1) := by decide +kernel
theorem dX7_refusal_13 : decode cX7_refusal 13 = .ok (.getfield 43, 3) := by decide +kernel
theorem dX7_refusal_16 : decode cX7_refusal 16 = .ok (.ifCond .ne 6, 3) := by decide +kernel
theorem dX7_refusal_19 : decode cX7_refusal 19 = .ok (.bipush (-5), 2) := by decide +kernel
theorem dX7_refusal_21 : decode cX7_refusal 21 = .ok (.ireturn, 1) := by decide +kernel
theorem dX7_refusal_22 : decode cX7_refusal 22 = .ok (.iload_n 1, 1) := by decide +kernel
theorem dX7_refusal_23 : decode cX7_refusal 23 = .ok (.ifCond .ne 10, 3) := by decide +kernel
theorem dX7_refusal_26 : decode cX7_refusal 26 = .ok (.aload_n 0, 1) := by decide +kernel
theorem dX7_refusal_27 : decode cX7_refusal 27 = .ok (.getfield 153, 3) := by decide +kernel
theorem dX7_refusal_30 : decode cX7_refusal 30 = .ok (.goto 7, 3) := by decide +kernel
theorem dX7_refusal_33 : decode cX7_refusal 33 = .ok (.aload_n 0, 1) := by decide +kernel
theorem dX7_refusal_34 : decode cX7_refusal 34 = .ok (.getfield 43, 3) := by decide +kernel
theorem dX7_refusal_37 : decode cX7_refusal 37 = .ok (.ireturn, 1) := by decide +kernel
theorem dX7_pass_0 : decode cX7_pass 0 = .ok (.iload_n 1, 1) := by decide +kernel
theorem dX7_pass_1 : decode cX7_pass 1 = .ok (.iconst 1, 1) := by decide +kernel
theorem dX7_pass_2 : decode cX7_pass 2 = .ok (.if_icmp .lt 10, 3) := by decide +kernel
theorem dX7_pass_5 : decode cX7_pass 5 = .ok (.iload_n 1, 1) := by decide +kernel
theorem dX7_pass_6 : decode cX7_pass 6 = .ok (.sipush 365, 3) := by decide +kernel
theorem dX7_pass_9 : decode cX7_pass 9 = .ok (.if_icmp .le 6, 3) := by decide +kernel
theorem dX7_pass_12 : decode cX7_pass 12 = .ok (.bipush (-2), 2) := by decide +kernel
theorem dX7_pass_14 : decode cX7_pass 14 = .ok (.ireturn, 1) := by decide +kernel
theorem dX7_pass_15 : decode cX7_pass 15 = .ok (.aload_n 0, 1) := by decide +kernel
theorem dX7_pass_16 : decode cX7_pass 16 = .ok (.getfield 10, 3) := by decide +kernel
theorem dX7_pass_19 : decode cX7_pass 19 = .ok (.getfield 156, 3) := by decide +kernel
theorem dX7_pass_22 : decode cX7_pass 22 = .ok (.iload_n 1, 1) := by decide +kernel
theorem dX7_pass_23 : decode cX7_pass 23 = .ok (.iadd, 1) := by decide +kernel
theorem dX7_pass_24 : decode cX7_pass 24 = .ok (.ldc 159, 2) := by decide +kernel
theorem dX7_pass_26 : decode cX7_pass 26 = .ok (.if_icmp .le 6, 3) := by decide +kernel
theorem dX7_pass_29 : decode cX7_pass 29 = .ok (.bipush (-4), 2) := by decide +kernel
theorem dX7_pass_31 : decode cX7_pass 31 = .ok (.ireturn, 1) := by decide +kernel
theorem dX7_pass_32 : decode cX7_pass 32 = .ok (.aload_n 0, 1) := by decide +kernel
theorem dX7_pass_33 : decode cX7_pass 33 = .ok (.getfield 25, 3) := by decide +kernel
theorem dX7_pass_36 : decode cX7_pass 36 = .ok (.aload_n 0, 1) := by decide +kernel
theorem dX7_pass_37 : decode cX7_pass 37 = .ok (.getfield 10, 3) := by decide +kernel
theorem dX7_pass_40 : decode cX7_pass 40 = .ok (.invokevirtual 62, 3) := by decide +kernel
theorem dX7_pass_43 : decode cX7_pass 43 = .ok (.aload_n 0, 1) := by decide +kernel
theorem dX7_pass_44 : decode cX7_pass 44 = .ok (.getfield 10, 3) := by decide +kernel
theorem dX7_pass_47 : decode cX7_pass 47 = .ok (.dup, 1) := by decide +kernel
theorem dX7_pass_48 : decode cX7_pass 48 = .ok (.getfield 156, 3) := by decide +kernel
theorem dX7_pass_51 : decode cX7_pass 51 = .ok (.iload_n 1, 1) := by decide +kernel
theorem dX7_pass_52 : decode cX7_pass 52 = .ok (.iadd, 1) := by decide +kernel
theorem dX7_pass_53 : decode cX7_pass 53 = .ok (.putfield 156, 3) := by decide +kernel
theorem dX7_pass_56 : decode cX7_pass 56 = .ok (.aload_n 0, 1) := by decide +kernel
theorem dX7_pass_57 : decode cX7_pass 57 = .ok (.getfield 10, 3) := by decide +kernel
theorem dX7_pass_60 : decode cX7_pass 60 = .ok (.getfield 156, 3) := by decide +kernel
theorem dX7_pass_63 : decode cX7_pass 63 = .ok (.ireturn, 1) := by decide +kernel
theorem dX7_type_0 : decode cX7_type 0 = .ok (.aload_n 0, 1) := by decide +kernel
theorem dX7_type_1 : decode cX7_type 1 = .ok (.getfield 32, 3) := by decide +kernel
theorem dX7_type_4 : decode cX7_type 4 = .ok (.iload_n 1, 1) := by decide +kernel
theorem dX7_type_5 : decode cX7_type 5 = .ok (.invokevirtual 160, 3) := by decide +kernel
theorem dX7_type_8 : decode cX7_type 8 = .ok (.ireturn, 1) := by decide +kernel
theorem dX7_clearText_0 : decode cX7_clearText 0 = .ok (.aload_n 0, 1) := by decide +kernel
theorem dX7_clearText_1 : decode cX7_clearText 1 = .ok (.getfield 32, 3) := by decide +kernel
theorem dX7_clearText_4 : decode cX7_clearText 4 = .ok (.getfield 163, 3) := by decide +kernel
theorem dX7_clearText_7 : decode cX7_clearText 7 = .ok (.istore_n 1, 1) := by decide +kernel
theorem dX7_clearText_8 : decode cX7_clearText 8 = .ok (.aload_n 0, 1) := by decide +kernel
theorem dX7_clearText_9 : decode cX7_clearText 9 = .ok (.getfield 32, 3) := by decide +kernel
theorem dX7_clearText_12 : decode cX7_clearText 12 = .ok (.iconst 0, 1) := by decide +kernel
theorem dX7_clearText_13 : decode cX7_clearText 13 = .ok (.putfield 163, 3) := by decide +kernel
theorem dX7_clearText_16 : decode cX7_clearText 16 = .ok (.iload_n 1, 1) := by decide +kernel
theorem dX7_clearText_17 : decode cX7_clearText 17 = .ok (.ireturn, 1) := by decide +kernel
theorem dX7_undo_0 : decode cX7_undo 0 = .ok (.aload_n 0, 1) := by decide +kernel
theorem dX7_undo_1 : decode cX7_undo 1 = .ok (.getfield 25, 3) := by decide +kernel
theorem dX7_undo_4 : decode cX7_undo 4 = .ok (.getfield 166, 3) := by decide +kernel
theorem dX7_undo_7 : decode cX7_undo 7 = .ok (.ifCond .ne 6, 3) := by decide +kernel
theorem dX7_undo_10 : decode cX7_undo 10 = .ok (.bipush (-5), 2) := by decide +kernel
theorem dX7_undo_12 : decode cX7_undo 12 = .ok (.ireturn, 1) := by decide +kernel
theorem dX7_undo_13 : decode cX7_undo 13 = .ok (.aload_n 0, 1) := by decide +kernel
theorem dX7_undo_14 : decode cX7_undo 14 = .ok (.getfield 25, 3) := by decide +kernel
theorem dX7_undo_17 : decode cX7_undo 17 = .ok (.aload_n 0, 1) := by decide +kernel
theorem dX7_undo_18 : decode cX7_undo 18 = .ok (.getfield 10, 3) := by decide +kernel
theorem dX7_undo_21 : decode cX7_undo 21 = .ok (.invokevirtual 167, 3) := by decide +kernel
theorem dX7_undo_24 : decode cX7_undo 24 = .ok (.aload_n 0, 1) := by decide +kernel
theorem dX7_undo_25 : decode cX7_undo 25 = .ok (.getfield 25, 3) := by decide +kernel
theorem dX7_undo_28 : decode cX7_undo 28 = .ok (.getfield 166, 3) := by decide +kernel
theorem dX7_undo_31 : decode cX7_undo 31 = .ok (.ireturn, 1) := by decide +kernel
theorem dX7_keep_0 : decode cX7_keep 0 = .ok (.aload_n 0, 1) := by decide +kernel
theorem dX7_keep_1 : decode cX7_keep 1 = .ok (.getfield 19, 3) := by decide +kernel
theorem dX7_keep_4 : decode cX7_keep 4 = .ok (.aload_n 0, 1) := by decide +kernel
theorem dX7_keep_5 : decode cX7_keep 5 = .ok (.getfield 10, 3) := by decide +kernel
theorem dX7_keep_8 : decode cX7_keep 8 = .ok (.invokevirtual 141, 3) := by decide +kernel
theorem dX7_keep_11 : decode cX7_keep 11 = .ok (.aload_n 0, 1) := by decide +kernel
theorem dX7_keep_12 : decode cX7_keep 12 = .ok (.iconst 1, 1) := by decide +kernel
theorem dX7_keep_13 : decode cX7_keep 13 = .ok (.putfield 170, 3) := by decide +kernel
theorem dX7_keep_16 : decode cX7_keep 16 = .ok (.aload_n 0, 1) := by decide +kernel
theorem dX7_keep_17 : decode cX7_keep 17 = .ok (.getfield 10, 3) := by decide +kernel
theorem dX7_keep_20 : decode cX7_keep 20 = .ok (.getfield 156, 3) := by decide +kernel
theorem dX7_keep_23 : decode cX7_keep 23 = .ok (.ireturn, 1) := by decide +kernel
theorem dX7_restore_0 : decode cX7_restore 0 = .ok (.aload_n 0, 1) := by decide +kernel
theorem dX7_restore_1 : decode cX7_restore 1 = .ok (.getfield 170, 3) := by decide +kernel
theorem dX7_restore_4 : decode cX7_restore 4 = .ok (.ifCond .ne 6, 3) := by decide +kernel
theorem dX7_restore_7 : decode cX7_restore 7 = .ok (.bipush (-5), 2) := by decide +kernel
theorem dX7_restore_9 : decode cX7_restore 9 = .ok (.ireturn, 1) := by decide +kernel
theorem dX7_restore_10 : decode cX7_restore 10 = .ok (.aload_n 0, 1) := by decide +kernel
theorem dX7_restore_11 : decode cX7_restore 11 = .ok (.getfield 25, 3) := by decide +kernel
theorem dX7_restore_14 : decode cX7_restore 14 = .ok (.aload_n 0, 1) := by decide +kernel
theorem dX7_restore_15 : decode cX7_restore 15 = .ok (.getfield 10, 3) := by decide +kernel
theorem dX7_restore_18 : decode cX7_restore 18 = .ok (.invokevirtual 62, 3) := by decide +kernel
theorem dX7_restore_21 : decode cX7_restore 21 = .ok (.aload_n 0, 1) := by decide +kernel
theorem dX7_restore_22 : decode cX7_restore 22 = .ok (.getfield 10, 3) := by decide +kernel
theorem dX7_restore_25 : decode cX7_restore 25 = .ok (.aload_n 0, 1) := by decide +kernel
theorem dX7_restore_26 : decode cX7_restore 26 = .ok (.getfield 19, 3) := by decide +kernel
theorem dX7_restore_29 : decode cX7_restore 29 = .ok (.invokevirtual 141, 3) := by decide +kernel
theorem dX7_restore_32 : decode cX7_restore 32 = .ok (.aload_n 0, 1) := by decide +kernel
theorem dX7_restore_33 : decode cX7_restore 33 = .ok (.getfield 10, 3) := by decide +kernel
theorem dX7_restore_36 : decode cX7_restore 36 = .ok (.getfield 156, 3) := by decide +kernel
theorem dX7_restore_39 : decode cX7_restore 39 = .ok (.ireturn, 1) := by decide +kernel
theorem dX7_rate_0 : decode cX7_rate 0 = .ok (.iload_n 1, 1) := by decide +kernel
theorem dX7_rate_1 : decode cX7_rate 1 = .ok (.ifCond .lt 8, 3) := by decide +kernel
theorem dX7_rate_4 : decode cX7_rate 4 = .ok (.iload_n 1, 1) := by decide +kernel
theorem dX7_rate_5 : decode cX7_rate 5 = .ok (.iconst 3, 1) := by decide +kernel
theorem dX7_rate_6 : decode cX7_rate 6 = .ok (.if_icmp .lt 9, 3) := by decide +kernel
theorem dX7_rate_9 : decode cX7_rate 9 = .ok (.invokestatic 174, 3) := by decide +kernel
theorem dX7_rate_12 : decode cX7_rate 12 = .ok (.goto 12, 3) := by decide +kernel
theorem dX7_rate_15 : decode cX7_rate 15 = .ok (.aload_n 0, 1) := by decide +kernel
theorem dX7_rate_16 : decode cX7_rate 16 = .ok (.getfield 10, 3) := by decide +kernel
theorem dX7_rate_19 : decode cX7_rate 19 = .ok (.getfield 58, 3) := by decide +kernel
theorem dX7_rate_22 : decode cX7_rate 22 = .ok (.iload_n 1, 1) := by decide +kernel
theorem dX7_rate_23 : decode cX7_rate 23 = .ok (.faload, 1) := by decide +kernel
theorem dX7_rate_24 : decode cX7_rate 24 = .ok (.freturn, 1) := by decide +kernel
theorem dX7_number_0 : decode cX7_number 0 = .ok (.iload_n 1, 1) := by decide +kernel
theorem dX7_number_1 : decode cX7_number 1 = .ok (.ifCond .lt 8, 3) := by decide +kernel
theorem dX7_number_4 : decode cX7_number 4 = .ok (.iload_n 1, 1) := by decide +kernel
theorem dX7_number_5 : decode cX7_number 5 = .ok (.iconst 3, 1) := by decide +kernel
theorem dX7_number_6 : decode cX7_number 6 = .ok (.if_icmp .lt 7, 3) := by decide +kernel
theorem dX7_number_9 : decode cX7_number 9 = .ok (.iconst (-1), 1) := by decide +kernel
theorem dX7_number_10 : decode cX7_number 10 = .ok (.goto 12, 3) := by decide +kernel
theorem dX7_number_13 : decode cX7_number 13 = .ok (.aload_n 0, 1) := by decide +kernel
theorem dX7_number_14 : decode cX7_number 14 = .ok (.getfield 10, 3) := by decide +kernel
theorem dX7_number_17 : decode cX7_number 17 = .ok (.getfield 72, 3) := by decide +kernel
theorem dX7_number_20 : decode cX7_number 20 = .ok (.iload_n 1, 1) := by decide +kernel
theorem dX7_number_21 : decode cX7_number 21 = .ok (.iaload, 1) := by decide +kernel
theorem dX7_number_22 : decode cX7_number 22 = .ok (.ireturn, 1) := by decide +kernel
theorem dX7_member_0 : decode cX7_member 0 = .ok (.aload_n 0, 1) := by decide +kernel
theorem dX7_member_1 : decode cX7_member 1 = .ok (.getfield 10, 3) := by decide +kernel
theorem dX7_member_4 : decode cX7_member 4 = .ok (.getfield 75, 3) := by decide +kernel
theorem dX7_member_7 : decode cX7_member 7 = .ok (.astore_n 3, 1) := by decide +kernel
theorem dX7_member_8 : decode cX7_member 8 = .ok (.aload_n 3, 1) := by decide +kernel
theorem dX7_member_9 : decode cX7_member 9 = .ok (.iload_n 1, 1) := by decide +kernel
theorem dX7_member_10 : decode cX7_member 10 = .ok (.invokevirtual 88, 3) := by decide +kernel
theorem dX7_member_13 : decode cX7_member 13 = .ok (.ifCond .ne 5, 3) := by decide +kernel
theorem dX7_member_16 : decode cX7_member 16 = .ok (.iconst (-1), 1) := by decide +kernel
theorem dX7_member_17 : decode cX7_member 17 = .ok (.ireturn, 1) := by decide +kernel
theorem dX7_member_18 : decode cX7_member 18 = .ok (.iload_n 2, 1) := by decide +kernel
theorem dX7_member_19 : decode cX7_member 19 = .ok (.tableswitch 95 0 5 #[37, 44, 51, 61, 73, 85], 37) := by decide +kernel
theorem dX7_member_56 : decode cX7_member 56 = .ok (.aload_n 3, 1) := by decide +kernel
theorem dX7_member_57 : decode cX7_member 57 = .ok (.getfield 178, 3) := by decide +kernel
theorem dX7_member_60 : decode cX7_member 60 = .ok (.iload_n 1, 1) := by decide +kernel
theorem dX7_member_61 : decode cX7_member 61 = .ok (.iaload, 1) := by decide +kernel
theorem dX7_member_62 : decode cX7_member 62 = .ok (.ireturn, 1) := by decide +kernel
theorem dX7_member_63 : decode cX7_member 63 = .ok (.aload_n 3, 1) := by decide +kernel
theorem dX7_member_64 : decode cX7_member 64 = .ok (.getfield 93, 3) := by decide +kernel
theorem dX7_member_67 : decode cX7_member 67 = .ok (.iload_n 1, 1) := by decide +kernel
theorem dX7_member_68 : decode cX7_member 68 = .ok (.iaload, 1) := by decide +kernel
theorem dX7_member_69 : decode cX7_member 69 = .ok (.ireturn, 1) := by decide +kernel
theorem dX7_member_70 : decode cX7_member 70 = .ok (.aload_n 3, 1) := by decide +kernel
theorem dX7_member_71 : decode cX7_member 71 = .ok (.getfield 181, 3) := by decide +kernel
theorem dX7_member_74 : decode cX7_member 74 = .ok (.iload_n 1, 1) := by decide +kernel
theorem dX7_member_75 : decode cX7_member 75 = .ok (.iaload, 1) := by decide +kernel
theorem dX7_member_76 : decode cX7_member 76 = .ok (.ldc 184, 2) := by decide +kernel
theorem dX7_member_78 : decode cX7_member 78 = .ok (.iadd, 1) := by decide +kernel
theorem dX7_member_79 : decode cX7_member 79 = .ok (.ireturn, 1) := by decide +kernel
theorem dX7_member_80 : decode cX7_member 80 = .ok (.aload_n 0, 1) := by decide +kernel
theorem dX7_member_81 : decode cX7_member 81 = .ok (.getfield 10, 3) := by decide +kernel
theorem dX7_member_84 : decode cX7_member 84 = .ok (.getfield 107, 3) := by decide +kernel
theorem dX7_member_87 : decode cX7_member 87 = .ok (.iload_n 1, 1) := by decide +kernel
theorem dX7_member_88 : decode cX7_member 88 = .ok (.invokevirtual 185, 3) := by decide +kernel
theorem dX7_member_91 : decode cX7_member 91 = .ok (.ireturn, 1) := by decide +kernel
theorem dX7_member_92 : decode cX7_member 92 = .ok (.aload_n 0, 1) := by decide +kernel
theorem dX7_member_93 : decode cX7_member 93 = .ok (.getfield 10, 3) := by decide +kernel
theorem dX7_member_96 : decode cX7_member 96 = .ok (.getfield 107, 3) := by decide +kernel
theorem dX7_member_99 : decode cX7_member 99 = .ok (.iload_n 1, 1) := by decide +kernel
theorem dX7_member_100 : decode cX7_member 100 = .ok (.invokevirtual 188, 3) := by decide +kernel
theorem dX7_member_103 : decode cX7_member 103 = .ok (.ireturn, 1) := by decide +kernel
theorem dX7_member_104 : decode cX7_member 104 = .ok (.aload_n 3, 1) := by decide +kernel
theorem dX7_member_105 : decode cX7_member 105 = .ok (.getfield 191, 3) := by decide +kernel
theorem dX7_member_108 : decode cX7_member 108 = .ok (.iload_n 1, 1) := by decide +kernel
theorem dX7_member_109 : decode cX7_member 109 = .ok (.iaload, 1) := by decide +kernel
theorem dX7_member_110 : decode cX7_member 110 = .ok (.ldc 184, 2) := by decide +kernel
theorem dX7_member_112 : decode cX7_member 112 = .ok (.iadd, 1) := by decide +kernel
theorem dX7_member_113 : decode cX7_member 113 = .ok (.ireturn, 1) := by decide +kernel
theorem dX7_member_114 : decode cX7_member 114 = .ok (.bipush (-2), 2) := by decide +kernel
theorem dX7_member_116 : decode cX7_member 116 = .ok (.ireturn, 1) := by decide +kernel
theorem dX7_client_0 : decode cX7_client 0 = .ok (.aload_n 0, 1) := by decide +kernel
theorem dX7_client_1 : decode cX7_client 1 = .ok (.getfield 10, 3) := by decide +kernel
theorem dX7_client_4 : decode cX7_client 4 = .ok (.getfield 100, 3) := by decide +kernel
theorem dX7_client_7 : decode cX7_client 7 = .ok (.astore_n 3, 1) := by decide +kernel
theorem dX7_client_8 : decode cX7_client 8 = .ok (.aload_n 3, 1) := by decide +kernel
theorem dX7_client_9 : decode cX7_client 9 = .ok (.iload_n 1, 1) := by decide +kernel
theorem dX7_client_10 : decode cX7_client 10 = .ok (.invokevirtual 104, 3) := by decide +kernel
theorem dX7_client_13 : decode cX7_client 13 = .ok (.ifCond .ne 5, 3) := by decide +kernel
theorem dX7_client_16 : decode cX7_client 16 = .ok (.iconst (-1), 1) := by decide +kernel
theorem dX7_client_17 : decode cX7_client 17 = .ok (.ireturn, 1) := by decide +kernel
theorem dX7_client_18 : decode cX7_client 18 = .ok (.iload_n 2, 1) := by decide +kernel
theorem dX7_client_19 : decode cX7_client 19 = .ok (.tableswitch 62 0 3 #[29, 36, 43, 50], 29) := by decide +kernel
theorem dX7_client_48 : decode cX7_client 48 = .ok (.aload_n 3, 1) := by decide +kernel
theorem dX7_client_49 : decode cX7_client 49 = .ok (.getfield 194, 3) := by decide +kernel
theorem dX7_client_52 : decode cX7_client 52 = .ok (.iload_n 1, 1) := by decide +kernel
theorem dX7_client_53 : decode cX7_client 53 = .ok (.iaload, 1) := by decide +kernel
theorem dX7_client_54 : decode cX7_client 54 = .ok (.ireturn, 1) := by decide +kernel
theorem dX7_client_55 : decode cX7_client 55 = .ok (.aload_n 3, 1) := by decide +kernel
theorem dX7_client_56 : decode cX7_client 56 = .ok (.getfield 197, 3) := by decide +kernel
theorem dX7_client_59 : decode cX7_client 59 = .ok (.iload_n 1, 1) := by decide +kernel
theorem dX7_client_60 : decode cX7_client 60 = .ok (.iaload, 1) := by decide +kernel
theorem dX7_client_61 : decode cX7_client 61 = .ok (.ireturn, 1) := by decide +kernel
theorem dX7_client_62 : decode cX7_client 62 = .ok (.aload_n 3, 1) := by decide +kernel
theorem dX7_client_63 : decode cX7_client 63 = .ok (.getfield 200, 3) := by decide +kernel
theorem dX7_client_66 : decode cX7_client 66 = .ok (.iload_n 1, 1) := by decide +kernel
theorem dX7_client_67 : decode cX7_client 67 = .ok (.iaload, 1) := by decide +kernel
theorem dX7_client_68 : decode cX7_client 68 = .ok (.ireturn, 1) := by decide +kernel
theorem dX7_client_69 : decode cX7_client 69 = .ok (.aload_n 0, 1) := by decide +kernel
theorem dX7_client_70 : decode cX7_client 70 = .ok (.getfield 10, 3) := by decide +kernel
theorem dX7_client_73 : decode cX7_client 73 = .ok (.getfield 107, 3) := by decide +kernel
theorem dX7_client_76 : decode cX7_client 76 = .ok (.iload_n 1, 1) := by decide +kernel
theorem dX7_client_77 : decode cX7_client 77 = .ok (.invokevirtual 203, 3) := by decide +kernel
theorem dX7_client_80 : decode cX7_client 80 = .ok (.ireturn, 1) := by decide +kernel
theorem dX7_client_81 : decode cX7_client 81 = .ok (.bipush (-2), 2) := by decide +kernel
theorem dX7_client_83 : decode cX7_client 83 = .ok (.ireturn, 1) := by decide +kernel
theorem dX7_risk_0 : decode cX7_risk 0 = .ok (.aload_n 0, 1) := by decide +kernel
theorem dX7_risk_1 : decode cX7_risk 1 = .ok (.getfield 10, 3) := by decide +kernel
theorem dX7_risk_4 : decode cX7_risk 4 = .ok (.getfield 100, 3) := by decide +kernel
theorem dX7_risk_7 : decode cX7_risk 7 = .ok (.iload_n 1, 1) := by decide +kernel
theorem dX7_risk_8 : decode cX7_risk 8 = .ok (.invokevirtual 206, 3) := by decide +kernel
theorem dX7_risk_11 : decode cX7_risk 11 = .ok (.freturn, 1) := by decide +kernel
theorem dX7_lateness_0 : decode cX7_lateness 0 = .ok (.aload_n 0, 1) := by decide +kernel
theorem dX7_lateness_1 : decode cX7_lateness 1 = .ok (.getfield 10, 3) := by decide +kernel
theorem dX7_lateness_4 : decode cX7_lateness 4 = .ok (.getfield 100, 3) := by decide +kernel
theorem dX7_lateness_7 : decode cX7_lateness 7 = .ok (.iload_n 1, 1) := by decide +kernel
theorem dX7_lateness_8 : decode cX7_lateness 8 = .ok (.invokevirtual 209, 3) := by decide +kernel
theorem dX7_lateness_11 : decode cX7_lateness 11 = .ok (.freturn, 1) := by decide +kernel
theorem dX7_invoice_0 : decode cX7_invoice 0 = .ok (.aload_n 0, 1) := by decide +kernel
theorem dX7_invoice_1 : decode cX7_invoice 1 = .ok (.getfield 10, 3) := by decide +kernel
theorem dX7_invoice_4 : decode cX7_invoice 4 = .ok (.getfield 107, 3) := by decide +kernel
theorem dX7_invoice_7 : decode cX7_invoice 7 = .ok (.astore_n 3, 1) := by decide +kernel
theorem dX7_invoice_8 : decode cX7_invoice 8 = .ok (.aload_n 3, 1) := by decide +kernel
theorem dX7_invoice_9 : decode cX7_invoice 9 = .ok (.iload_n 1, 1) := by decide +kernel
theorem dX7_invoice_10 : decode cX7_invoice 10 = .ok (.invokevirtual 117, 3) := by decide +kernel
theorem dX7_invoice_13 : decode cX7_invoice 13 = .ok (.ifCond .ne 5, 3) := by decide +kernel
theorem dX7_invoice_16 : decode cX7_invoice 16 = .ok (.iconst (-1), 1) := by decide +kernel
theorem dX7_invoice_17 : decode cX7_invoice 17 = .ok (.ireturn, 1) := by decide +kernel
theorem dX7_invoice_18 : decode cX7_invoice 18 = .ok (.iload_n 2, 1) := by decide +kernel
theorem dX7_invoice_19 : decode cX7_invoice 19 = .ok (.tableswitch 162 0 10 #[57, 64, 71, 78, 85, 92, 99, 106, 118, 128, 145], 57) := by decide +kernel
theorem dX7_invoice_76 : decode cX7_invoice 76 = .ok (.aload_n 3, 1) := by decide +kernel
theorem dX7_invoice_77 : decode cX7_invoice 77 = .ok (.getfield 212, 3) := by decide +kernel
theorem dX7_invoice_80 : decode cX7_invoice 80 = .ok (.iload_n 1, 1) := by decide +kernel
theorem dX7_invoice_81 : decode cX7_invoice 81 = .ok (.iaload, 1) := by decide +kernel
theorem dX7_invoice_82 : decode cX7_invoice 82 = .ok (.ireturn, 1) := by decide +kernel
theorem dX7_invoice_83 : decode cX7_invoice 83 = .ok (.aload_n 3, 1) := by decide +kernel
theorem dX7_invoice_84 : decode cX7_invoice 84 = .ok (.getfield 215, 3) := by decide +kernel
theorem dX7_invoice_87 : decode cX7_invoice 87 = .ok (.iload_n 1, 1) := by decide +kernel
theorem dX7_invoice_88 : decode cX7_invoice 88 = .ok (.iaload, 1) := by decide +kernel
theorem dX7_invoice_89 : decode cX7_invoice 89 = .ok (.ireturn, 1) := by decide +kernel
theorem dX7_invoice_90 : decode cX7_invoice 90 = .ok (.aload_n 3, 1) := by decide +kernel
theorem dX7_invoice_91 : decode cX7_invoice 91 = .ok (.getfield 218, 3) := by decide +kernel
theorem dX7_invoice_94 : decode cX7_invoice 94 = .ok (.iload_n 1, 1) := by decide +kernel
theorem dX7_invoice_95 : decode cX7_invoice 95 = .ok (.iaload, 1) := by decide +kernel
theorem dX7_invoice_96 : decode cX7_invoice 96 = .ok (.ireturn, 1) := by decide +kernel
theorem dX7_invoice_97 : decode cX7_invoice 97 = .ok (.aload_n 3, 1) := by decide +kernel
theorem dX7_invoice_98 : decode cX7_invoice 98 = .ok (.getfield 221, 3) := by decide +kernel
theorem dX7_invoice_101 : decode cX7_invoice 101 = .ok (.iload_n 1, 1) := by decide +kernel
theorem dX7_invoice_102 : decode cX7_invoice 102 = .ok (.iaload, 1) := by decide +kernel
theorem dX7_invoice_103 : decode cX7_invoice 103 = .ok (.ireturn, 1) := by decide +kernel
theorem dX7_invoice_104 : decode cX7_invoice 104 = .ok (.aload_n 3, 1) := by decide +kernel
theorem dX7_invoice_105 : decode cX7_invoice 105 = .ok (.getfield 224, 3) := by decide +kernel
theorem dX7_invoice_108 : decode cX7_invoice 108 = .ok (.iload_n 1, 1) := by decide +kernel
theorem dX7_invoice_109 : decode cX7_invoice 109 = .ok (.iaload, 1) := by decide +kernel
theorem dX7_invoice_110 : decode cX7_invoice 110 = .ok (.ireturn, 1) := by decide +kernel
theorem dX7_invoice_111 : decode cX7_invoice 111 = .ok (.aload_n 3, 1) := by decide +kernel
theorem dX7_invoice_112 : decode cX7_invoice 112 = .ok (.getfield 227, 3) := by decide +kernel
theorem dX7_invoice_115 : decode cX7_invoice 115 = .ok (.iload_n 1, 1) := by decide +kernel
theorem dX7_invoice_116 : decode cX7_invoice 116 = .ok (.iaload, 1) := by decide +kernel
theorem dX7_invoice_117 : decode cX7_invoice 117 = .ok (.ireturn, 1) := by decide +kernel
theorem dX7_invoice_118 : decode cX7_invoice 118 = .ok (.aload_n 3, 1) := by decide +kernel
theorem dX7_invoice_119 : decode cX7_invoice 119 = .ok (.getfield 230, 3) := by decide +kernel
theorem dX7_invoice_122 : decode cX7_invoice 122 = .ok (.iload_n 1, 1) := by decide +kernel
theorem dX7_invoice_123 : decode cX7_invoice 123 = .ok (.iaload, 1) := by decide +kernel
theorem dX7_invoice_124 : decode cX7_invoice 124 = .ok (.ireturn, 1) := by decide +kernel
theorem dX7_invoice_125 : decode cX7_invoice 125 = .ok (.aload_n 0, 1) := by decide +kernel
theorem dX7_invoice_126 : decode cX7_invoice 126 = .ok (.getfield 10, 3) := by decide +kernel
theorem dX7_invoice_129 : decode cX7_invoice 129 = .ok (.iload_n 1, 1) := by decide +kernel
theorem dX7_invoice_130 : decode cX7_invoice 130 = .ok (.invokevirtual 232, 3) := by decide +kernel
theorem dX7_invoice_133 : decode cX7_invoice 133 = .ok (.ldc 235, 2) := by decide +kernel
theorem dX7_invoice_135 : decode cX7_invoice 135 = .ok (.iadd, 1) := by decide +kernel
theorem dX7_invoice_136 : decode cX7_invoice 136 = .ok (.ireturn, 1) := by decide +kernel
theorem dX7_invoice_137 : decode cX7_invoice 137 = .ok (.aload_n 0, 1) := by decide +kernel
theorem dX7_invoice_138 : decode cX7_invoice 138 = .ok (.getfield 10, 3) := by decide +kernel
theorem dX7_invoice_141 : decode cX7_invoice 141 = .ok (.iload_n 1, 1) := by decide +kernel
theorem dX7_invoice_142 : decode cX7_invoice 142 = .ok (.iconst 0, 1) := by decide +kernel
theorem dX7_invoice_143 : decode cX7_invoice 143 = .ok (.invokevirtual 236, 3) := by decide +kernel
theorem dX7_invoice_146 : decode cX7_invoice 146 = .ok (.ireturn, 1) := by decide +kernel
theorem dX7_invoice_147 : decode cX7_invoice 147 = .ok (.aload_n 0, 1) := by decide +kernel
theorem dX7_invoice_148 : decode cX7_invoice 148 = .ok (.getfield 10, 3) := by decide +kernel
theorem dX7_invoice_151 : decode cX7_invoice 151 = .ok (.iload_n 1, 1) := by decide +kernel
theorem dX7_invoice_152 : decode cX7_invoice 152 = .ok (.invokevirtual 118, 3) := by decide +kernel
theorem dX7_invoice_155 : decode cX7_invoice 155 = .ok (.ifCond .eq 7, 3) := by decide +kernel
theorem dX7_invoice_158 : decode cX7_invoice 158 = .ok (.iconst 1, 1) := by decide +kernel
theorem dX7_invoice_159 : decode cX7_invoice 159 = .ok (.goto 4, 3) := by decide +kernel
theorem dX7_invoice_162 : decode cX7_invoice 162 = .ok (.iconst 0, 1) := by decide +kernel
theorem dX7_invoice_163 : decode cX7_invoice 163 = .ok (.ireturn, 1) := by decide +kernel
theorem dX7_invoice_164 : decode cX7_invoice 164 = .ok (.aload_n 0, 1) := by decide +kernel
theorem dX7_invoice_165 : decode cX7_invoice 165 = .ok (.getfield 10, 3) := by decide +kernel
theorem dX7_invoice_168 : decode cX7_invoice 168 = .ok (.iload_n 1, 1) := by decide +kernel
theorem dX7_invoice_169 : decode cX7_invoice 169 = .ok (.invokevirtual 131, 3) := by decide +kernel
theorem dX7_invoice_172 : decode cX7_invoice 172 = .ok (.ifCond .eq 7, 3) := by decide +kernel
theorem dX7_invoice_175 : decode cX7_invoice 175 = .ok (.iconst 1, 1) := by decide +kernel
theorem dX7_invoice_176 : decode cX7_invoice 176 = .ok (.goto 4, 3) := by decide +kernel
theorem dX7_invoice_179 : decode cX7_invoice 179 = .ok (.iconst 0, 1) := by decide +kernel
theorem dX7_invoice_180 : decode cX7_invoice 180 = .ok (.ireturn, 1) := by decide +kernel
theorem dX7_invoice_181 : decode cX7_invoice 181 = .ok (.bipush (-2), 2) := by decide +kernel
theorem dX7_invoice_183 : decode cX7_invoice 183 = .ok (.ireturn, 1) := by decide +kernel
theorem dX7_rateIn_0 : decode cX7_rateIn 0 = .ok (.iload_n 2, 1) := by decide +kernel
theorem dX7_rateIn_1 : decode cX7_rateIn 1 = .ok (.ifCond .lt 10, 3) := by decide +kernel
theorem dX7_rateIn_4 : decode cX7_rateIn 4 = .ok (.iload_n 2, 1) := by decide +kernel
theorem dX7_rateIn_5 : decode cX7_rateIn 5 = .ok (.sipush 1000, 3) := by decide +kernel
theorem dX7_rateIn_8 : decode cX7_rateIn 8 = .ok (.if_icmp .le 9, 3) := by decide +kernel
theorem dX7_rateIn_11 : decode cX7_rateIn 11 = .ok (.invokestatic 174, 3) := by decide +kernel
theorem dX7_rateIn_14 : decode cX7_rateIn 14 = .ok (.goto 12, 3) := by decide +kernel
theorem dX7_rateIn_17 : decode cX7_rateIn 17 = .ok (.aload_n 0, 1) := by decide +kernel
theorem dX7_rateIn_18 : decode cX7_rateIn 18 = .ok (.getfield 10, 3) := by decide +kernel
theorem dX7_rateIn_21 : decode cX7_rateIn 21 = .ok (.iload_n 1, 1) := by decide +kernel
theorem dX7_rateIn_22 : decode cX7_rateIn 22 = .ok (.iload_n 2, 1) := by decide +kernel
theorem dX7_rateIn_23 : decode cX7_rateIn 23 = .ok (.invokevirtual 239, 3) := by decide +kernel
theorem dX7_rateIn_26 : decode cX7_rateIn 26 = .ok (.freturn, 1) := by decide +kernel
theorem dX7_worth_0 : decode cX7_worth 0 = .ok (.aload_n 0, 1) := by decide +kernel
theorem dX7_worth_1 : decode cX7_worth 1 = .ok (.getfield 10, 3) := by decide +kernel
theorem dX7_worth_4 : decode cX7_worth 4 = .ok (.iload_n 1, 1) := by decide +kernel
theorem dX7_worth_5 : decode cX7_worth 5 = .ok (.invokevirtual 243, 3) := by decide +kernel
theorem dX7_worth_8 : decode cX7_worth 8 = .ok (.freturn, 1) := by decide +kernel
theorem dX7_best_0 : decode cX7_best 0 = .ok (.iload_n 1, 1) := by decide +kernel
theorem dX7_best_1 : decode cX7_best 1 = .ok (.ifCond .ge 6, 3) := by decide +kernel
theorem dX7_best_4 : decode cX7_best 4 = .ok (.bipush (-2), 2) := by decide +kernel
theorem dX7_best_6 : decode cX7_best 6 = .ok (.ireturn, 1) := by decide +kernel
theorem dX7_best_7 : decode cX7_best 7 = .ok (.aload_n 0, 1) := by decide +kernel
theorem dX7_best_8 : decode cX7_best 8 = .ok (.getfield 39, 3) := by decide +kernel
theorem dX7_best_11 : decode cX7_best 11 = .ok (.iconst 0, 1) := by decide +kernel
theorem dX7_best_12 : decode cX7_best 12 = .ok (.putfield 246, 3) := by decide +kernel
theorem dX7_best_15 : decode cX7_best 15 = .ok (.iconst 0, 1) := by decide +kernel
theorem dX7_best_16 : decode cX7_best 16 = .ok (.istore_n 2, 1) := by decide +kernel
theorem dX7_best_17 : decode cX7_best 17 = .ok (.iload_n 2, 1) := by decide +kernel
theorem dX7_best_18 : decode cX7_best 18 = .ok (.aload_n 0, 1) := by decide +kernel
theorem dX7_best_19 : decode cX7_best 19 = .ok (.getfield 10, 3) := by decide +kernel
theorem dX7_best_22 : decode cX7_best 22 = .ok (.getfield 107, 3) := by decide +kernel
theorem dX7_best_25 : decode cX7_best 25 = .ok (.getfield 111, 3) := by decide +kernel
theorem dX7_best_28 : decode cX7_best 28 = .ok (.if_icmp .ge 36, 3) := by decide +kernel
theorem dX7_best_31 : decode cX7_best 31 = .ok (.aload_n 0, 1) := by decide +kernel
theorem dX7_best_32 : decode cX7_best 32 = .ok (.getfield 10, 3) := by decide +kernel
theorem dX7_best_35 : decode cX7_best 35 = .ok (.iload_n 2, 1) := by decide +kernel
theorem dX7_best_36 : decode cX7_best 36 = .ok (.invokevirtual 118, 3) := by decide +kernel
theorem dX7_best_39 : decode cX7_best 39 = .ok (.ifCond .eq 19, 3) := by decide +kernel
theorem dX7_best_42 : decode cX7_best 42 = .ok (.aload_n 0, 1) := by decide +kernel
theorem dX7_best_43 : decode cX7_best 43 = .ok (.getfield 39, 3) := by decide +kernel
theorem dX7_best_46 : decode cX7_best 46 = .ok (.iload_n 2, 1) := by decide +kernel
theorem dX7_best_47 : decode cX7_best 47 = .ok (.aload_n 0, 1) := by decide +kernel
theorem dX7_best_48 : decode cX7_best 48 = .ok (.getfield 10, 3) := by decide +kernel
theorem dX7_best_51 : decode cX7_best 51 = .ok (.iload_n 2, 1) := by decide +kernel
theorem dX7_best_52 : decode cX7_best 52 = .ok (.invokevirtual 243, 3) := by decide +kernel
theorem dX7_best_55 : decode cX7_best 55 = .ok (.invokevirtual 247, 3) := by decide +kernel
theorem dX7_best_58 : decode cX7_best 58 = .ok (.iinc 2 1, 3) := by decide +kernel
theorem dX7_best_61 : decode cX7_best 61 = .ok (.goto (-44), 3) := by decide +kernel
theorem dX7_best_64 : decode cX7_best 64 = .ok (.iload_n 1, 1) := by decide +kernel
theorem dX7_best_65 : decode cX7_best 65 = .ok (.aload_n 0, 1) := by decide +kernel
theorem dX7_best_66 : decode cX7_best 66 = .ok (.getfield 39, 3) := by decide +kernel
theorem dX7_best_69 : decode cX7_best 69 = .ok (.getfield 246, 3) := by decide +kernel
theorem dX7_best_72 : decode cX7_best 72 = .ok (.if_icmp .ge 14, 3) := by decide +kernel
theorem dX7_best_75 : decode cX7_best 75 = .ok (.aload_n 0, 1) := by decide +kernel
theorem dX7_best_76 : decode cX7_best 76 = .ok (.getfield 39, 3) := by decide +kernel
theorem dX7_best_79 : decode cX7_best 79 = .ok (.iload_n 1, 1) := by decide +kernel
theorem dX7_best_80 : decode cX7_best 80 = .ok (.invokevirtual 251, 3) := by decide +kernel
theorem dX7_best_83 : decode cX7_best 83 = .ok (.goto 5, 3) := by decide +kernel
theorem dX7_best_86 : decode cX7_best 86 = .ok (.bipush (-5), 2) := by decide +kernel
theorem dX7_best_88 : decode cX7_best 88 = .ok (.ireturn, 1) := by decide +kernel
theorem dX7_worthlessIn_0 : decode cX7_worthlessIn 0 = .ok (.aload_n 0, 1) := by decide +kernel
theorem dX7_worthlessIn_1 : decode cX7_worthlessIn 1 = .ok (.getfield 10, 3) := by decide +kernel
theorem dX7_worthlessIn_4 : decode cX7_worthlessIn 4 = .ok (.getfield 107, 3) := by decide +kernel
theorem dX7_worthlessIn_7 : decode cX7_worthlessIn 7 = .ok (.iload_n 1, 1) := by decide +kernel
theorem dX7_worthlessIn_8 : decode cX7_worthlessIn 8 = .ok (.invokevirtual 117, 3) := by decide +kernel
theorem dX7_worthlessIn_11 : decode cX7_worthlessIn 11 = .ok (.ifCond .ne 5, 3) := by decide +kernel
theorem dX7_worthlessIn_14 : decode cX7_worthlessIn 14 = .ok (.iconst (-1), 1) := by decide +kernel
theorem dX7_worthlessIn_15 : decode cX7_worthlessIn 15 = .ok (.ireturn, 1) := by decide +kernel
theorem dX7_worthlessIn_16 : decode cX7_worthlessIn 16 = .ok (.iconst 0, 1) := by decide +kernel
theorem dX7_worthlessIn_17 : decode cX7_worthlessIn 17 = .ok (.istore_n 2, 1) := by decide +kernel
theorem dX7_worthlessIn_18 : decode cX7_worthlessIn 18 = .ok (.iload_n 2, 1) := by decide +kernel
theorem dX7_worthlessIn_19 : decode cX7_worthlessIn 19 = .ok (.sipush 1000, 3) := by decide +kernel
theorem dX7_worthlessIn_22 : decode cX7_worthlessIn 22 = .ok (.if_icmp .gt 23, 3) := by decide +kernel
theorem dX7_worthlessIn_25 : decode cX7_worthlessIn 25 = .ok (.aload_n 0, 1) := by decide +kernel
theorem dX7_worthlessIn_26 : decode cX7_worthlessIn 26 = .ok (.getfield 10, 3) := by decide +kernel
theorem dX7_worthlessIn_29 : decode cX7_worthlessIn 29 = .ok (.iload_n 1, 1) := by decide +kernel
theorem dX7_worthlessIn_30 : decode cX7_worthlessIn 30 = .ok (.iload_n 2, 1) := by decide +kernel
theorem dX7_worthlessIn_31 : decode cX7_worthlessIn 31 = .ok (.invokevirtual 236, 3) := by decide +kernel
theorem dX7_worthlessIn_34 : decode cX7_worthlessIn 34 = .ok (.ifCond .ne 5, 3) := by decide +kernel
theorem dX7_worthlessIn_37 : decode cX7_worthlessIn 37 = .ok (.iload_n 2, 1) := by decide +kernel
theorem dX7_worthlessIn_38 : decode cX7_worthlessIn 38 = .ok (.ireturn, 1) := by decide +kernel
theorem dX7_worthlessIn_39 : decode cX7_worthlessIn 39 = .ok (.iinc 2 1, 3) := by decide +kernel
theorem dX7_worthlessIn_42 : decode cX7_worthlessIn 42 = .ok (.goto (-24), 3) := by decide +kernel
theorem dX7_worthlessIn_45 : decode cX7_worthlessIn 45 = .ok (.bipush (-5), 2) := by decide +kernel
theorem dX7_worthlessIn_47 : decode cX7_worthlessIn 47 = .ok (.ireturn, 1) := by decide +kernel
theorem dX7_exposure_0 : decode cX7_exposure 0 = .ok (.aload_n 0, 1) := by decide +kernel
theorem dX7_exposure_1 : decode cX7_exposure 1 = .ok (.getfield 10, 3) := by decide +kernel
theorem dX7_exposure_4 : decode cX7_exposure 4 = .ok (.getfield 75, 3) := by decide +kernel
theorem dX7_exposure_7 : decode cX7_exposure 7 = .ok (.invokevirtual 254, 3) := by decide +kernel
theorem dX7_exposure_10 : decode cX7_exposure 10 = .ok (.istore_n 1, 1) := by decide +kernel
theorem dX7_exposure_11 : decode cX7_exposure 11 = .ok (.iload_n 1, 1) := by decide +kernel
theorem dX7_exposure_12 : decode cX7_exposure 12 = .ok (.ifCond .ne 9, 3) := by decide +kernel
theorem dX7_exposure_15 : decode cX7_exposure 15 = .ok (.invokestatic 174, 3) := by decide +kernel
theorem dX7_exposure_18 : decode cX7_exposure 18 = .ok (.goto 17, 3) := by decide +kernel
theorem dX7_exposure_21 : decode cX7_exposure 21 = .ok (.aload_n 0, 1) := by decide +kernel
theorem dX7_exposure_22 : decode cX7_exposure 22 = .ok (.getfield 10, 3) := by decide +kernel
theorem dX7_exposure_25 : decode cX7_exposure 25 = .ok (.getfield 107, 3) := by decide +kernel
theorem dX7_exposure_28 : decode cX7_exposure 28 = .ok (.invokevirtual 257, 3) := by decide +kernel
theorem dX7_exposure_31 : decode cX7_exposure 31 = .ok (.i2f, 1) := by decide +kernel
theorem dX7_exposure_32 : decode cX7_exposure 32 = .ok (.iload_n 1, 1) := by decide +kernel
theorem dX7_exposure_33 : decode cX7_exposure 33 = .ok (.i2f, 1) := by decide +kernel
theorem dX7_exposure_34 : decode cX7_exposure 34 = .ok (.fdiv, 1) := by decide +kernel
theorem dX7_exposure_35 : decode cX7_exposure 35 = .ok (.freturn, 1) := by decide +kernel
theorem dX7_count_0 : decode cX7_count 0 = .ok (.iload_n 1, 1) := by decide +kernel
theorem dX7_count_1 : decode cX7_count 1 = .ok (.tableswitch 235 0 15 #[79, 87, 98, 109, 117, 128, 139, 151, 163, 175, 187, 195, 203, 211, 219, 227], 79) := by decide +kernel
theorem dX7_count_80 : decode cX7_count 80 = .ok (.aload_n 0, 1) := by decide +kernel
theorem dX7_count_81 : decode cX7_count 81 = .ok (.getfield 10, 3) := by decide +kernel
theorem dX7_count_84 : decode cX7_count 84 = .ok (.getfield 156, 3) := by decide +kernel
theorem dX7_count_87 : decode cX7_count 87 = .ok (.ireturn, 1) := by decide +kernel
theorem dX7_count_88 : decode cX7_count 88 = .ok (.aload_n 0, 1) := by decide +kernel
theorem dX7_count_89 : decode cX7_count 89 = .ok (.getfield 10, 3) := by decide +kernel
theorem dX7_count_92 : decode cX7_count 92 = .ok (.getfield 97, 3) := by decide +kernel
theorem dX7_count_95 : decode cX7_count 95 = .ok (.ldc 184, 2) := by decide +kernel
theorem dX7_count_97 : decode cX7_count 97 = .ok (.iadd, 1) := by decide +kernel
theorem dX7_count_98 : decode cX7_count 98 = .ok (.ireturn, 1) := by decide +kernel
theorem dX7_count_99 : decode cX7_count 99 = .ok (.aload_n 0, 1) := by decide +kernel
theorem dX7_count_100 : decode cX7_count 100 = .ok (.getfield 10, 3) := by decide +kernel
theorem dX7_count_103 : decode cX7_count 103 = .ok (.getfield 75, 3) := by decide +kernel
theorem dX7_count_106 : decode cX7_count 106 = .ok (.invokevirtual 254, 3) := by decide +kernel
theorem dX7_count_109 : decode cX7_count 109 = .ok (.ireturn, 1) := by decide +kernel
theorem dX7_count_110 : decode cX7_count 110 = .ok (.aload_n 0, 1) := by decide +kernel
theorem dX7_count_111 : decode cX7_count 111 = .ok (.getfield 10, 3) := by decide +kernel
theorem dX7_count_114 : decode cX7_count 114 = .ok (.invokevirtual 260, 3) := by decide +kernel
theorem dX7_count_117 : decode cX7_count 117 = .ok (.ireturn, 1) := by decide +kernel
theorem dX7_count_118 : decode cX7_count 118 = .ok (.aload_n 0, 1) := by decide +kernel
theorem dX7_count_119 : decode cX7_count 119 = .ok (.getfield 10, 3) := by decide +kernel
theorem dX7_count_122 : decode cX7_count 122 = .ok (.getfield 75, 3) := by decide +kernel
theorem dX7_count_125 : decode cX7_count 125 = .ok (.getfield 79, 3) := by decide +kernel
theorem dX7_count_128 : decode cX7_count 128 = .ok (.ireturn, 1) := by decide +kernel
theorem dX7_count_129 : decode cX7_count 129 = .ok (.aload_n 0, 1) := by decide +kernel
theorem dX7_count_130 : decode cX7_count 130 = .ok (.getfield 10, 3) := by decide +kernel
theorem dX7_count_133 : decode cX7_count 133 = .ok (.getfield 107, 3) := by decide +kernel
theorem dX7_count_136 : decode cX7_count 136 = .ok (.getfield 111, 3) := by decide +kernel
theorem dX7_count_139 : decode cX7_count 139 = .ok (.ireturn, 1) := by decide +kernel
theorem dX7_count_140 : decode cX7_count 140 = .ok (.aload_n 0, 1) := by decide +kernel
theorem dX7_count_141 : decode cX7_count 141 = .ok (.getfield 10, 3) := by decide +kernel
theorem dX7_count_144 : decode cX7_count 144 = .ok (.getfield 107, 3) := by decide +kernel
theorem dX7_count_147 : decode cX7_count 147 = .ok (.iconst 0, 1) := by decide +kernel
theorem dX7_count_148 : decode cX7_count 148 = .ok (.invokevirtual 263, 3) := by decide +kernel
theorem dX7_count_151 : decode cX7_count 151 = .ok (.ireturn, 1) := by decide +kernel
theorem dX7_count_152 : decode cX7_count 152 = .ok (.aload_n 0, 1) := by decide +kernel
theorem dX7_count_153 : decode cX7_count 153 = .ok (.getfield 10, 3) := by decide +kernel
theorem dX7_count_156 : decode cX7_count 156 = .ok (.getfield 107, 3) := by decide +kernel
theorem dX7_count_159 : decode cX7_count 159 = .ok (.iconst 1, 1) := by decide +kernel
theorem dX7_count_160 : decode cX7_count 160 = .ok (.invokevirtual 263, 3) := by decide +kernel
theorem dX7_count_163 : decode cX7_count 163 = .ok (.ireturn, 1) := by decide +kernel
theorem dX7_count_164 : decode cX7_count 164 = .ok (.aload_n 0, 1) := by decide +kernel
theorem dX7_count_165 : decode cX7_count 165 = .ok (.getfield 10, 3) := by decide +kernel
theorem dX7_count_168 : decode cX7_count 168 = .ok (.getfield 107, 3) := by decide +kernel
theorem dX7_count_171 : decode cX7_count 171 = .ok (.iconst 2, 1) := by decide +kernel
theorem dX7_count_172 : decode cX7_count 172 = .ok (.invokevirtual 263, 3) := by decide +kernel
theorem dX7_count_175 : decode cX7_count 175 = .ok (.ireturn, 1) := by decide +kernel
theorem dX7_count_176 : decode cX7_count 176 = .ok (.aload_n 0, 1) := by decide +kernel
theorem dX7_count_177 : decode cX7_count 177 = .ok (.getfield 10, 3) := by decide +kernel
theorem dX7_count_180 : decode cX7_count 180 = .ok (.getfield 107, 3) := by decide +kernel
theorem dX7_count_183 : decode cX7_count 183 = .ok (.iconst 3, 1) := by decide +kernel
theorem dX7_count_184 : decode cX7_count 184 = .ok (.invokevirtual 263, 3) := by decide +kernel
theorem dX7_count_187 : decode cX7_count 187 = .ok (.ireturn, 1) := by decide +kernel
theorem dX7_count_188 : decode cX7_count 188 = .ok (.aload_n 0, 1) := by decide +kernel
theorem dX7_count_189 : decode cX7_count 189 = .ok (.getfield 10, 3) := by decide +kernel
theorem dX7_count_192 : decode cX7_count 192 = .ok (.getfield 266, 3) := by decide +kernel
theorem dX7_count_195 : decode cX7_count 195 = .ok (.ireturn, 1) := by decide +kernel
theorem dX7_count_196 : decode cX7_count 196 = .ok (.aload_n 0, 1) := by decide +kernel
theorem dX7_count_197 : decode cX7_count 197 = .ok (.getfield 10, 3) := by decide +kernel
theorem dX7_count_200 : decode cX7_count 200 = .ok (.getfield 269, 3) := by decide +kernel
theorem dX7_count_203 : decode cX7_count 203 = .ok (.ireturn, 1) := by decide +kernel
theorem dX7_count_204 : decode cX7_count 204 = .ok (.aload_n 0, 1) := by decide +kernel
theorem dX7_count_205 : decode cX7_count 205 = .ok (.getfield 10, 3) := by decide +kernel
theorem dX7_count_208 : decode cX7_count 208 = .ok (.getfield 272, 3) := by decide +kernel
theorem dX7_count_211 : decode cX7_count 211 = .ok (.ireturn, 1) := by decide +kernel
theorem dX7_count_212 : decode cX7_count 212 = .ok (.aload_n 0, 1) := by decide +kernel
theorem dX7_count_213 : decode cX7_count 213 = .ok (.getfield 10, 3) := by decide +kernel
theorem dX7_count_216 : decode cX7_count 216 = .ok (.getfield 275, 3) := by decide +kernel
theorem dX7_count_219 : decode cX7_count 219 = .ok (.ireturn, 1) := by decide +kernel
theorem dX7_count_220 : decode cX7_count 220 = .ok (.aload_n 0, 1) := by decide +kernel
theorem dX7_count_221 : decode cX7_count 221 = .ok (.getfield 25, 3) := by decide +kernel
theorem dX7_count_224 : decode cX7_count 224 = .ok (.getfield 166, 3) := by decide +kernel
theorem dX7_count_227 : decode cX7_count 227 = .ok (.ireturn, 1) := by decide +kernel
theorem dX7_count_228 : decode cX7_count 228 = .ok (.aload_n 0, 1) := by decide +kernel
theorem dX7_count_229 : decode cX7_count 229 = .ok (.getfield 32, 3) := by decide +kernel
theorem dX7_count_232 : decode cX7_count 232 = .ok (.getfield 163, 3) := by decide +kernel
theorem dX7_count_235 : decode cX7_count 235 = .ok (.ireturn, 1) := by decide +kernel
theorem dX7_count_236 : decode cX7_count 236 = .ok (.bipush (-2), 2) := by decide +kernel
theorem dX7_count_238 : decode cX7_count 238 = .ok (.ireturn, 1) := by decide +kernel
theorem dX7_noNumber_0 : decode cX7_noNumber 0 = .ok (.ldc_w 278, 3) := by decide +kernel
theorem dX7_noNumber_3 : decode cX7_noNumber 3 = .ok (.freturn, 1) := by decide +kernel
theorem dX7_floatOf_0 : decode cX7_floatOf 0 = .ok (.iload_n 0, 1) := by decide +kernel
theorem dX7_floatOf_1 : decode cX7_floatOf 1 = .ok (.bipush 23, 2) := by decide +kernel
theorem dX7_floatOf_3 : decode cX7_floatOf 3 = .ok (.iushr, 1) := by decide +kernel
theorem dX7_floatOf_4 : decode cX7_floatOf 4 = .ok (.istore_n 1, 1) := by decide +kernel
theorem dX7_floatOf_5 : decode cX7_floatOf 5 = .ok (.iload_n 0, 1) := by decide +kernel
theorem dX7_floatOf_6 : decode cX7_floatOf 6 = .ok (.ldc_w 279, 3) := by decide +kernel
theorem dX7_floatOf_9 : decode cX7_floatOf 9 = .ok (.iand, 1) := by decide +kernel
theorem dX7_floatOf_10 : decode cX7_floatOf 10 = .ok (.istore_n 2, 1) := by decide +kernel
theorem dX7_floatOf_11 : decode cX7_floatOf 11 = .ok (.iload_n 1, 1) := by decide +kernel
theorem dX7_floatOf_12 : decode cX7_floatOf 12 = .ok (.ifCond .ne 7, 3) := by decide +kernel
theorem dX7_floatOf_15 : decode cX7_floatOf 15 = .ok (.iconst 1, 1) := by decide +kernel
theorem dX7_floatOf_16 : decode cX7_floatOf 16 = .ok (.goto 4, 3) := by decide +kernel
theorem dX7_floatOf_19 : decode cX7_floatOf 19 = .ok (.iload_n 1, 1) := by decide +kernel
theorem dX7_floatOf_20 : decode cX7_floatOf 20 = .ok (.istore_n 3, 1) := by decide +kernel
theorem dX7_floatOf_21 : decode cX7_floatOf 21 = .ok (.iload_n 1, 1) := by decide +kernel
theorem dX7_floatOf_22 : decode cX7_floatOf 22 = .ok (.ifCond .ne 7, 3) := by decide +kernel
theorem dX7_floatOf_25 : decode cX7_floatOf 25 = .ok (.iload_n 2, 1) := by decide +kernel
theorem dX7_floatOf_26 : decode cX7_floatOf 26 = .ok (.goto 8, 3) := by decide +kernel
theorem dX7_floatOf_29 : decode cX7_floatOf 29 = .ok (.iload_n 2, 1) := by decide +kernel
theorem dX7_floatOf_30 : decode cX7_floatOf 30 = .ok (.ldc_w 280, 3) := by decide +kernel
theorem dX7_floatOf_33 : decode cX7_floatOf 33 = .ok (.ior, 1) := by decide +kernel
theorem dX7_floatOf_34 : decode cX7_floatOf 34 = .ok (.i2f, 1) := by decide +kernel
theorem dX7_floatOf_35 : decode cX7_floatOf 35 = .ok (.fstore 4, 2) := by decide +kernel
theorem dX7_floatOf_37 : decode cX7_floatOf 37 = .ok (.iload_n 3, 1) := by decide +kernel
theorem dX7_floatOf_38 : decode cX7_floatOf 38 = .ok (.istore 5, 2) := by decide +kernel
theorem dX7_floatOf_40 : decode cX7_floatOf 40 = .ok (.iload 5, 2) := by decide +kernel
theorem dX7_floatOf_42 : decode cX7_floatOf 42 = .ok (.sipush 150, 3) := by decide +kernel
theorem dX7_floatOf_45 : decode cX7_floatOf 45 = .ok (.if_icmp .ge 17, 3) := by decide +kernel
theorem dX7_floatOf_48 : decode cX7_floatOf 48 = .ok (.fload 4, 2) := by decide +kernel
theorem dX7_floatOf_50 : decode cX7_floatOf 50 = .ok (.ldc_w 281, 3) := by decide +kernel
theorem dX7_floatOf_53 : decode cX7_floatOf 53 = .ok (.fmul, 1) := by decide +kernel
theorem dX7_floatOf_54 : decode cX7_floatOf 54 = .ok (.fstore 4, 2) := by decide +kernel
theorem dX7_floatOf_56 : decode cX7_floatOf 56 = .ok (.iinc 5 1, 3) := by decide +kernel
theorem dX7_floatOf_59 : decode cX7_floatOf 59 = .ok (.goto (-19), 3) := by decide +kernel
theorem dX7_floatOf_62 : decode cX7_floatOf 62 = .ok (.fload 4, 2) := by decide +kernel
theorem dX7_floatOf_64 : decode cX7_floatOf 64 = .ok (.freturn, 1) := by decide +kernel
theorem dX7_copyRow_0 : decode cX7_copyRow 0 = .ok (.iconst 0, 1) := by decide +kernel
theorem dX7_copyRow_1 : decode cX7_copyRow 1 = .ok (.istore_n 2, 1) := by decide +kernel
theorem dX7_copyRow_2 : decode cX7_copyRow 2 = .ok (.iload_n 2, 1) := by decide +kernel
theorem dX7_copyRow_3 : decode cX7_copyRow 3 = .ok (.aload_n 0, 1) := by decide +kernel
theorem dX7_copyRow_4 : decode cX7_copyRow 4 = .ok (.arraylength, 1) := by decide +kernel
theorem dX7_copyRow_5 : decode cX7_copyRow 5 = .ok (.if_icmp .ge 21, 3) := by decide +kernel
theorem dX7_copyRow_8 : decode cX7_copyRow 8 = .ok (.iload_n 2, 1) := by decide +kernel
theorem dX7_copyRow_9 : decode cX7_copyRow 9 = .ok (.aload_n 1, 1) := by decide +kernel
theorem dX7_copyRow_10 : decode cX7_copyRow 10 = .ok (.arraylength, 1) := by decide +kernel
theorem dX7_copyRow_11 : decode cX7_copyRow 11 = .ok (.if_icmp .ge 15, 3) := by decide +kernel
theorem dX7_copyRow_14 : decode cX7_copyRow 14 = .ok (.aload_n 1, 1) := by decide +kernel
theorem dX7_copyRow_15 : decode cX7_copyRow 15 = .ok (.iload_n 2, 1) := by decide +kernel
theorem dX7_copyRow_16 : decode cX7_copyRow 16 = .ok (.aload_n 0, 1) := by decide +kernel
theorem dX7_copyRow_17 : decode cX7_copyRow 17 = .ok (.iload_n 2, 1) := by decide +kernel
theorem dX7_copyRow_18 : decode cX7_copyRow 18 = .ok (.iaload, 1) := by decide +kernel
theorem dX7_copyRow_19 : decode cX7_copyRow 19 = .ok (.iastore, 1) := by decide +kernel
theorem dX7_copyRow_20 : decode cX7_copyRow 20 = .ok (.iinc 2 1, 3) := by decide +kernel
theorem dX7_copyRow_23 : decode cX7_copyRow 23 = .ok (.goto (-21), 3) := by decide +kernel
theorem dX7_copyRow_26 : decode cX7_copyRow 26 = .ok (.return_, 1) := by decide +kernel
theorem dX8_init_0 : decode cX8_init 0 = .ok (.aload_n 0, 1) := by decide +kernel
theorem dX8_init_1 : decode cX8_init 1 = .ok (.invokespecial 1, 3) := by decide +kernel
theorem dX8_init_4 : decode cX8_init 4 = .ok (.aload_n 0, 1) := by decide +kernel
theorem dX8_init_5 : decode cX8_init 5 = .ok (.sipush 204, 3) := by decide +kernel
theorem dX8_init_8 : decode cX8_init 8 = .ok (.newarray .int, 2) := by decide +kernel
theorem dX8_init_10 : decode cX8_init 10 = .ok (.putfield 7, 3) := by decide +kernel
theorem dX8_init_13 : decode cX8_init 13 = .ok (.aload_n 0, 1) := by decide +kernel
theorem dX8_init_14 : decode cX8_init 14 = .ok (.sipush 204, 3) := by decide +kernel
theorem dX8_init_17 : decode cX8_init 17 = .ok (.newarray .int, 2) := by decide +kernel
theorem dX8_init_19 : decode cX8_init 19 = .ok (.putfield 13, 3) := by decide +kernel
theorem dX8_init_22 : decode cX8_init 22 = .ok (.aload_n 0, 1) := by decide +kernel
theorem dX8_init_23 : decode cX8_init 23 = .ok (.sipush 816, 3) := by decide +kernel
theorem dX8_init_26 : decode cX8_init 26 = .ok (.newarray .int, 2) := by decide +kernel
theorem dX8_init_28 : decode cX8_init 28 = .ok (.putfield 16, 3) := by decide +kernel
theorem dX8_init_31 : decode cX8_init 31 = .ok (.aload_n 0, 1) := by decide +kernel
theorem dX8_init_32 : decode cX8_init 32 = .ok (.sipush 204, 3) := by decide +kernel
theorem dX8_init_35 : decode cX8_init 35 = .ok (.newarray .int, 2) := by decide +kernel
theorem dX8_init_37 : decode cX8_init 37 = .ok (.putfield 19, 3) := by decide +kernel
theorem dX8_init_40 : decode cX8_init 40 = .ok (.aload_n 0, 1) := by decide +kernel
theorem dX8_init_41 : decode cX8_init 41 = .ok (.bipush 60, 2) := by decide +kernel
theorem dX8_init_43 : decode cX8_init 43 = .ok (.newarray .int, 2) := by decide +kernel
theorem dX8_init_45 : decode cX8_init 45 = .ok (.putfield 22, 3) := by decide +kernel
theorem dX8_init_48 : decode cX8_init 48 = .ok (.aload_n 0, 1) := by decide +kernel
theorem dX8_init_49 : decode cX8_init 49 = .ok (.bipush (-5), 2) := by decide +kernel
theorem dX8_init_51 : decode cX8_init 51 = .ok (.putfield 25, 3) := by decide +kernel
theorem dX8_init_54 : decode cX8_init 54 = .ok (.aload_n 0, 1) := by decide +kernel
theorem dX8_init_55 : decode cX8_init 55 = .ok (.bipush (-5), 2) := by decide +kernel
theorem dX8_init_57 : decode cX8_init 57 = .ok (.putfield 29, 3) := by decide +kernel
theorem dX8_init_60 : decode cX8_init 60 = .ok (.aload_n 0, 1) := by decide +kernel
theorem dX8_init_61 : decode cX8_init 61 = .ok (.bipush 8, 2) := by decide +kernel
theorem dX8_init_63 : decode cX8_init 63 = .ok (.newarray .int, 2) := by decide +kernel
theorem dX8_init_65 : decode cX8_init 65 = .ok (.putfield 32, 3) := by decide +kernel
theorem dX8_init_68 : decode cX8_init 68 = .ok (.aload_n 0, 1) := by decide +kernel
theorem dX8_init_69 : decode cX8_init 69 = .ok (.getfield 7, 3) := by decide +kernel
theorem dX8_init_72 : decode cX8_init 72 = .ok (.iconst 2, 1) := by decide +kernel
theorem dX8_init_73 : decode cX8_init 73 = .ok (.ldc 35, 2) := by decide +kernel
theorem dX8_init_75 : decode cX8_init 75 = .ok (.iastore, 1) := by decide +kernel
theorem dX8_init_76 : decode cX8_init 76 = .ok (.aload_n 0, 1) := by decide +kernel
theorem dX8_init_77 : decode cX8_init 77 = .ok (.getfield 7, 3) := by decide +kernel
theorem dX8_init_80 : decode cX8_init 80 = .ok (.iconst 3, 1) := by decide +kernel
theorem dX8_init_81 : decode cX8_init 81 = .ok (.ldc 36, 2) := by decide +kernel
theorem dX8_init_83 : decode cX8_init 83 = .ok (.iastore, 1) := by decide +kernel
theorem dX8_init_84 : decode cX8_init 84 = .ok (.aload_n 0, 1) := by decide +kernel
theorem dX8_init_85 : decode cX8_init 85 = .ok (.getfield 7, 3) := by decide +kernel
theorem dX8_init_88 : decode cX8_init 88 = .ok (.iconst 4, 1) := by decide +kernel
theorem dX8_init_89 : decode cX8_init 89 = .ok (.ldc 37, 2) := by decide +kernel
theorem dX8_init_91 : decode cX8_init 91 = .ok (.iastore, 1) := by decide +kernel
theorem dX8_init_92 : decode cX8_init 92 = .ok (.aload_n 0, 1) := by decide +kernel
theorem dX8_init_93 : decode cX8_init 93 = .ok (.getfield 7, 3) := by decide +kernel
theorem dX8_init_96 : decode cX8_init 96 = .ok (.iconst 5, 1) := by decide +kernel
theorem dX8_init_97 : decode cX8_init 97 = .ok (.bipush 14, 2) := by decide +kernel
theorem dX8_init_99 : decode cX8_init 99 = .ok (.iastore, 1) := by decide +kernel
theorem dX8_init_100 : decode cX8_init 100 = .ok (.aload_n 0, 1) := by decide +kernel
theorem dX8_init_101 : decode cX8_init 101 = .ok (.getfield 7, 3) := by decide +kernel
theorem dX8_init_104 : decode cX8_init 104 = .ok (.bipush 6, 2) := by decide +kernel
theorem dX8_init_106 : decode cX8_init 106 = .ok (.bipush 20, 2) := by decide +kernel
theorem dX8_init_108 : decode cX8_init 108 = .ok (.iastore, 1) := by decide +kernel
theorem dX8_init_109 : decode cX8_init 109 = .ok (.aload_n 0, 1) := by decide +kernel
theorem dX8_init_110 : decode cX8_init 110 = .ok (.getfield 7, 3) := by decide +kernel
theorem dX8_init_113 : decode cX8_init 113 = .ok (.bipush 7, 2) := by decide +kernel
theorem dX8_init_115 : decode cX8_init 115 = .ok (.bipush 120, 2) := by decide +kernel
theorem dX8_init_117 : decode cX8_init 117 = .ok (.iastore, 1) := by decide +kernel
theorem dX8_init_118 : decode cX8_init 118 = .ok (.return_, 1) := by decide +kernel
theorem dX8_in_0 : decode cX8_in 0 = .ok (.iload_n 0, 1) := by decide +kernel
theorem dX8_in_1 : decode cX8_in 1 = .ok (.iload_n 1, 1) := by decide +kernel
theorem dX8_in_2 : decode cX8_in 2 = .ok (.if_icmp .lt 12, 3) := by decide +kernel
theorem dX8_in_5 : decode cX8_in 5 = .ok (.iload_n 0, 1) := by decide +kernel
theorem dX8_in_6 : decode cX8_in 6 = .ok (.iload_n 2, 1) := by decide +kernel
theorem dX8_in_7 : decode cX8_in 7 = .ok (.if_icmp .gt 7, 3) := by decide +kernel
theorem dX8_in_10 : decode cX8_in 10 = .ok (.iconst 1, 1) := by decide +kernel
theorem dX8_in_11 : decode cX8_in 11 = .ok (.goto 4, 3) := by decide +kernel
theorem dX8_in_14 : decode cX8_in 14 = .ok (.iconst 0, 1) := by decide +kernel
theorem dX8_in_15 : decode cX8_in 15 = .ok (.ireturn, 1) := by decide +kernel
theorem dX8_of_0 : decode cX8_of 0 = .ok (.bipush 64, 2) := by decide +kernel
theorem dX8_of_2 : decode cX8_of 2 = .ok (.bipush 7, 2) := by decide +kernel
theorem dX8_of_4 : decode cX8_of 4 = .ok (.iload_n 0, 1) := by decide +kernel
theorem dX8_of_5 : decode cX8_of 5 = .ok (.imul, 1) := by decide +kernel
theorem dX8_of_6 : decode cX8_of 6 = .ok (.iadd, 1) := by decide +kernel
theorem dX8_of_7 : decode cX8_of 7 = .ok (.iload_n 1, 1) := by decide +kernel
theorem dX8_of_8 : decode cX8_of 8 = .ok (.iadd, 1) := by decide +kernel
theorem dX8_of_9 : decode cX8_of 9 = .ok (.ireturn, 1) := by decide +kernel
theorem dX8_ofMember_0 : decode cX8_ofMember 0 = .ok (.bipush 14, 2) := by decide +kernel
theorem dX8_ofMember_2 : decode cX8_ofMember 2 = .ok (.iconst 4, 1) := by decide +kernel
theorem dX8_ofMember_3 : decode cX8_ofMember 3 = .ok (.iload_n 0, 1) := by decide +kernel
theorem dX8_ofMember_4 : decode cX8_ofMember 4 = .ok (.imul, 1) := by decide +kernel
theorem dX8_ofMember_5 : decode cX8_ofMember 5 = .ok (.iadd, 1) := by decide +kernel
theorem dX8_ofMember_6 : decode cX8_ofMember 6 = .ok (.iload_n 1, 1) := by decide +kernel
theorem dX8_ofMember_7 : decode cX8_ofMember 7 = .ok (.iadd, 1) := by decide +kernel
theorem dX8_ofMember_8 : decode cX8_ofMember 8 = .ok (.ireturn, 1) := by decide +kernel
theorem dX8_ofClient_0 : decode cX8_ofClient 0 = .ok (.bipush 46, 2) := by decide +kernel
theorem dX8_ofClient_2 : decode cX8_ofClient 2 = .ok (.iconst 3, 1) := by decide +kernel
theorem dX8_ofClient_3 : decode cX8_ofClient 3 = .ok (.iload_n 0, 1) := by decide +kernel
theorem dX8_ofClient_4 : decode cX8_ofClient 4 = .ok (.imul, 1) := by decide +kernel
theorem dX8_ofClient_5 : decode cX8_ofClient 5 = .ok (.iadd, 1) := by decide +kernel
theorem dX8_ofClient_6 : decode cX8_ofClient 6 = .ok (.iload_n 1, 1) := by decide +kernel
theorem dX8_ofClient_7 : decode cX8_ofClient 7 = .ok (.iadd, 1) := by decide +kernel
theorem dX8_ofClient_8 : decode cX8_ofClient 8 = .ok (.ireturn, 1) := by decide +kernel
theorem dX8_isMember_0 : decode cX8_isMember 0 = .ok (.iload_n 1, 1) := by decide +kernel
theorem dX8_isMember_1 : decode cX8_isMember 1 = .ok (.iconst 0, 1) := by decide +kernel
theorem dX8_isMember_2 : decode cX8_isMember 2 = .ok (.aload_n 0, 1) := by decide +kernel
theorem dX8_isMember_3 : decode cX8_isMember 3 = .ok (.getfield 7, 3) := by decide +kernel
theorem dX8_isMember_6 : decode cX8_isMember 6 = .ok (.bipush 8, 2) := by decide +kernel
theorem dX8_isMember_8 : decode cX8_isMember 8 = .ok (.iaload, 1) := by decide +kernel
theorem dX8_isMember_9 : decode cX8_isMember 9 = .ok (.iconst 1, 1) := by decide +kernel
theorem dX8_isMember_10 : decode cX8_isMember 10 = .ok (.isub, 1) := by decide +kernel
theorem dX8_isMember_11 : decode cX8_isMember 11 = .ok (.invokestatic 38, 3) := by decide +kernel
theorem dX8_isMember_14 : decode cX8_isMember 14 = .ok (.ireturn, 1) := by decide +kernel
theorem dX8_isInvoice_0 : decode cX8_isInvoice 0 = .ok (.iload_n 1, 1) := by decide +kernel
theorem dX8_isInvoice_1 : decode cX8_isInvoice 1 = .ok (.iconst 0, 1) := by decide +kernel
theorem dX8_isInvoice_2 : decode cX8_isInvoice 2 = .ok (.aload_n 0, 1) := by decide +kernel
theorem dX8_isInvoice_3 : decode cX8_isInvoice 3 = .ok (.getfield 7, 3) := by decide +kernel
theorem dX8_isInvoice_6 : decode cX8_isInvoice 6 = .ok (.bipush 9, 2) := by decide +kernel
theorem dX8_isInvoice_8 : decode cX8_isInvoice 8 = .ok (.iaload, 1) := by decide +kernel
theorem dX8_isInvoice_9 : decode cX8_isInvoice 9 = .ok (.iconst 1, 1) := by decide +kernel
theorem dX8_isInvoice_10 : decode cX8_isInvoice 10 = .ok (.isub, 1) := by decide +kernel
theorem dX8_isInvoice_11 : decode cX8_isInvoice 11 = .ok (.invokestatic 38, 3) := by decide +kernel
theorem dX8_isInvoice_14 : decode cX8_isInvoice 14 = .ok (.ireturn, 1) := by decide +kernel
theorem dX8_isClient_0 : decode cX8_isClient 0 = .ok (.iload_n 0, 1) := by decide +kernel
theorem dX8_isClient_1 : decode cX8_isClient 1 = .ok (.iconst 0, 1) := by decide +kernel
theorem dX8_isClient_2 : decode cX8_isClient 2 = .ok (.iconst 5, 1) := by decide +kernel
theorem dX8_isClient_3 : decode cX8_isClient 3 = .ok (.invokestatic 38, 3) := by decide +kernel
theorem dX8_isClient_6 : decode cX8_isClient 6 = .ok (.ireturn, 1) := by decide +kernel
theorem dX8_know_0 : decode cX8_know 0 = .ok (.aload_n 0, 1) := by decide +kernel
theorem dX8_know_1 : decode cX8_know 1 = .ok (.getfield 42, 3) := by decide +kernel
theorem dX8_know_4 : decode cX8_know 4 = .ok (.iconst 4, 1) := by decide +kernel
theorem dX8_know_5 : decode cX8_know 5 = .ok (.if_icmp .ne 44, 3) := by decide +kernel
theorem dX8_know_8 : decode cX8_know 8 = .ok (.iconst 0, 1) := by decide +kernel
theorem dX8_know_9 : decode cX8_know 9 = .ok (.istore_n 1, 1) := by decide +kernel
theorem dX8_know_10 : decode cX8_know 10 = .ok (.iload_n 1, 1) := by decide +kernel
theorem dX8_know_11 : decode cX8_know 11 = .ok (.sipush 612, 3) := by decide +kernel
theorem dX8_know_14 : decode cX8_know 14 = .ok (.if_icmp .ge 25, 3) := by decide +kernel
theorem dX8_know_17 : decode cX8_know 17 = .ok (.aload_n 0, 1) := by decide +kernel
theorem dX8_know_18 : decode cX8_know 18 = .ok (.getfield 16, 3) := by decide +kernel
theorem dX8_know_21 : decode cX8_know 21 = .ok (.iload_n 1, 1) := by decide +kernel
theorem dX8_know_22 : decode cX8_know 22 = .ok (.aload_n 0, 1) := by decide +kernel
theorem dX8_know_23 : decode cX8_know 23 = .ok (.getfield 16, 3) := by decide +kernel
theorem dX8_know_26 : decode cX8_know 26 = .ok (.sipush 204, 3) := by decide +kernel
theorem dX8_know_29 : decode cX8_know 29 = .ok (.iload_n 1, 1) := by decide +kernel
theorem dX8_know_30 : decode cX8_know 30 = .ok (.iadd, 1) := by decide +kernel
theorem dX8_know_31 : decode cX8_know 31 = .ok (.iaload, 1) := by decide +kernel
theorem dX8_know_32 : decode cX8_know 32 = .ok (.iastore, 1) := by decide +kernel
theorem dX8_know_33 : decode cX8_know 33 = .ok (.iinc 1 1, 3) := by decide +kernel
theorem dX8_know_36 : decode cX8_know 36 = .ok (.goto (-26), 3) := by decide +kernel
theorem dX8_know_39 : decode cX8_know 39 = .ok (.aload_n 0, 1) := by decide +kernel
theorem dX8_know_40 : decode cX8_know 40 = .ok (.dup, 1) := by decide +kernel
theorem dX8_know_41 : decode cX8_know 41 = .ok (.getfield 42, 3) := by decide +kernel
theorem dX8_know_44 : decode cX8_know 44 = .ok (.iconst 1, 1) := by decide +kernel
theorem dX8_know_45 : decode cX8_know 45 = .ok (.isub, 1) := by decide +kernel
theorem dX8_know_46 : decode cX8_know 46 = .ok (.putfield 42, 3) := by decide +kernel
theorem dX8_know_49 : decode cX8_know 49 = .ok (.iconst 0, 1) := by decide +kernel
theorem dX8_know_50 : decode cX8_know 50 = .ok (.istore_n 1, 1) := by decide +kernel
theorem dX8_know_51 : decode cX8_know 51 = .ok (.iload_n 1, 1) := by decide +kernel
theorem dX8_know_52 : decode cX8_know 52 = .ok (.sipush 204, 3) := by decide +kernel
theorem dX8_know_55 : decode cX8_know 55 = .ok (.if_icmp .ge 30, 3) := by decide +kernel
theorem dX8_know_58 : decode cX8_know 58 = .ok (.aload_n 0, 1) := by decide +kernel
theorem dX8_know_59 : decode cX8_know 59 = .ok (.getfield 16, 3) := by decide +kernel
theorem dX8_know_62 : decode cX8_know 62 = .ok (.sipush 204, 3) := by decide +kernel
theorem dX8_know_65 : decode cX8_know 65 = .ok (.aload_n 0, 1) := by decide +kernel
theorem dX8_know_66 : decode cX8_know 66 = .ok (.getfield 42, 3) := by decide +kernel
theorem dX8_know_69 : decode cX8_know 69 = .ok (.imul, 1) := by decide +kernel
theorem dX8_know_70 : decode cX8_know 70 = .ok (.iload_n 1, 1) := by decide +kernel
theorem dX8_know_71 : decode cX8_know 71 = .ok (.iadd, 1) := by decide +kernel
theorem dX8_know_72 : decode cX8_know 72 = .ok (.aload_n 0, 1) := by decide +kernel
theorem dX8_know_73 : decode cX8_know 73 = .ok (.getfield 7, 3) := by decide +kernel
theorem dX8_know_76 : decode cX8_know 76 = .ok (.iload_n 1, 1) := by decide +kernel
theorem dX8_know_77 : decode cX8_know 77 = .ok (.iaload, 1) := by decide +kernel
theorem dX8_know_78 : decode cX8_know 78 = .ok (.iastore, 1) := by decide +kernel
theorem dX8_know_79 : decode cX8_know 79 = .ok (.iinc 1 1, 3) := by decide +kernel
theorem dX8_know_82 : decode cX8_know 82 = .ok (.goto (-31), 3) := by decide +kernel
theorem dX8_know_85 : decode cX8_know 85 = .ok (.aload_n 0, 1) := by decide +kernel
theorem dX8_know_86 : decode cX8_know 86 = .ok (.dup, 1) := by decide +kernel
theorem dX8_know_87 : decode cX8_know 87 = .ok (.getfield 42, 3) := by decide +kernel
theorem dX8_know_90 : decode cX8_know 90 = .ok (.iconst 1, 1) := by decide +kernel
theorem dX8_know_91 : decode cX8_know 91 = .ok (.iadd, 1) := by decide +kernel
theorem dX8_know_92 : decode cX8_know 92 = .ok (.putfield 42, 3) := by decide +kernel
theorem dX8_know_95 : decode cX8_know 95 = .ok (.return_, 1) := by decide +kernel
theorem dX8_nan_0 : decode cX8_nan 0 = .ok (.ldc 47, 2) := by decide +kernel
theorem dX8_nan_2 : decode cX8_nan 2 = .ok (.freturn, 1) := by decide +kernel
theorem dX8_ofBits_0 : decode cX8_ofBits 0 = .ok (.iload_n 0, 1) := by decide +kernel
theorem dX8_ofBits_1 : decode cX8_ofBits 1 = .ok (.bipush 23, 2) := by decide +kernel
theorem dX8_ofBits_3 : decode cX8_ofBits 3 = .ok (.ishr, 1) := by decide +kernel
theorem dX8_ofBits_4 : decode cX8_ofBits 4 = .ok (.istore_n 1, 1) := by decide +kernel
theorem dX8_ofBits_5 : decode cX8_ofBits 5 = .ok (.iload_n 1, 1) := by decide +kernel
theorem dX8_ofBits_6 : decode cX8_ofBits 6 = .ok (.ifCond .ne 11, 3) := by decide +kernel
theorem dX8_ofBits_9 : decode cX8_ofBits 9 = .ok (.iload_n 0, 1) := by decide +kernel
theorem dX8_ofBits_10 : decode cX8_ofBits 10 = .ok (.ldc 48, 2) := by decide +kernel
theorem dX8_ofBits_12 : decode cX8_ofBits 12 = .ok (.iand, 1) := by decide +kernel
theorem dX8_ofBits_13 : decode cX8_ofBits 13 = .ok (.i2f, 1) := by decide +kernel
theorem dX8_ofBits_14 : decode cX8_ofBits 14 = .ok (.goto 11, 3) := by decide +kernel
theorem dX8_ofBits_17 : decode cX8_ofBits 17 = .ok (.iload_n 0, 1) := by decide +kernel
theorem dX8_ofBits_18 : decode cX8_ofBits 18 = .ok (.ldc 48, 2) := by decide +kernel
theorem dX8_ofBits_20 : decode cX8_ofBits 20 = .ok (.iand, 1) := by decide +kernel
theorem dX8_ofBits_21 : decode cX8_ofBits 21 = .ok (.ldc 49, 2) := by decide +kernel
theorem dX8_ofBits_23 : decode cX8_ofBits 23 = .ok (.ior, 1) := by decide +kernel
theorem dX8_ofBits_24 : decode cX8_ofBits 24 = .ok (.i2f, 1) := by decide +kernel
theorem dX8_ofBits_25 : decode cX8_ofBits 25 = .ok (.fstore_n 2, 1) := by decide +kernel
theorem dX8_ofBits_26 : decode cX8_ofBits 26 = .ok (.iload_n 1, 1) := by decide +kernel
theorem dX8_ofBits_27 : decode cX8_ofBits 27 = .ok (.ifCond .ne 7, 3) := by decide +kernel
theorem dX8_ofBits_30 : decode cX8_ofBits 30 = .ok (.iconst 1, 1) := by decide +kernel
theorem dX8_ofBits_31 : decode cX8_ofBits 31 = .ok (.goto 4, 3) := by decide +kernel
theorem dX8_ofBits_34 : decode cX8_ofBits 34 = .ok (.iload_n 1, 1) := by decide +kernel
theorem dX8_ofBits_35 : decode cX8_ofBits 35 = .ok (.istore_n 3, 1) := by decide +kernel
theorem dX8_ofBits_36 : decode cX8_ofBits 36 = .ok (.iload_n 3, 1) := by decide +kernel
theorem dX8_ofBits_37 : decode cX8_ofBits 37 = .ok (.sipush 150, 3) := by decide +kernel
theorem dX8_ofBits_40 : decode cX8_ofBits 40 = .ok (.if_icmp .ge 14, 3) := by decide +kernel
theorem dX8_ofBits_43 : decode cX8_ofBits 43 = .ok (.fload_n 2, 1) := by decide +kernel
theorem dX8_ofBits_44 : decode cX8_ofBits 44 = .ok (.ldc 50, 2) := by decide +kernel
theorem dX8_ofBits_46 : decode cX8_ofBits 46 = .ok (.fmul, 1) := by decide +kernel
theorem dX8_ofBits_47 : decode cX8_ofBits 47 = .ok (.fstore_n 2, 1) := by decide +kernel
theorem dX8_ofBits_48 : decode cX8_ofBits 48 = .ok (.iinc 3 1, 3) := by decide +kernel
theorem dX8_ofBits_51 : decode cX8_ofBits 51 = .ok (.goto (-15), 3) := by decide +kernel
theorem dX8_ofBits_54 : decode cX8_ofBits 54 = .ok (.sipush 150, 3) := by decide +kernel
theorem dX8_ofBits_57 : decode cX8_ofBits 57 = .ok (.istore_n 3, 1) := by decide +kernel
theorem dX8_ofBits_58 : decode cX8_ofBits 58 = .ok (.iload_n 3, 1) := by decide +kernel
theorem dX8_ofBits_59 : decode cX8_ofBits 59 = .ok (.iload_n 1, 1) := by decide +kernel
theorem dX8_ofBits_60 : decode cX8_ofBits 60 = .ok (.if_icmp .ge 13, 3) := by decide +kernel
theorem dX8_ofBits_63 : decode cX8_ofBits 63 = .ok (.fload_n 2, 1) := by decide +kernel
theorem dX8_ofBits_64 : decode cX8_ofBits 64 = .ok (.fconst 2, 1) := by decide +kernel
theorem dX8_ofBits_65 : decode cX8_ofBits 65 = .ok (.fmul, 1) := by decide +kernel
theorem dX8_ofBits_66 : decode cX8_ofBits 66 = .ok (.fstore_n 2, 1) := by decide +kernel
theorem dX8_ofBits_67 : decode cX8_ofBits 67 = .ok (.iinc 3 1, 3) := by decide +kernel
theorem dX8_ofBits_70 : decode cX8_ofBits 70 = .ok (.goto (-12), 3) := by decide +kernel
theorem dX8_ofBits_73 : decode cX8_ofBits 73 = .ok (.fload_n 2, 1) := by decide +kernel
theorem dX8_ofBits_74 : decode cX8_ofBits 74 = .ok (.freturn, 1) := by decide +kernel
theorem dX8_rateOf_0 : decode cX8_rateOf 0 = .ok (.aload_n 0, 1) := by decide +kernel
theorem dX8_rateOf_1 : decode cX8_rateOf 1 = .ok (.getfield 7, 3) := by decide +kernel
theorem dX8_rateOf_4 : decode cX8_rateOf 4 = .ok (.iconst 2, 1) := by decide +kernel
theorem dX8_rateOf_5 : decode cX8_rateOf 5 = .ok (.iload_n 1, 1) := by decide +kernel
theorem dX8_rateOf_6 : decode cX8_rateOf 6 = .ok (.iadd, 1) := by decide +kernel
theorem dX8_rateOf_7 : decode cX8_rateOf 7 = .ok (.iaload, 1) := by decide +kernel
theorem dX8_rateOf_8 : decode cX8_rateOf 8 = .ok (.invokestatic 51, 3) := by decide +kernel
theorem dX8_rateOf_11 : decode cX8_rateOf 11 = .ok (.freturn, 1) := by decide +kernel
theorem dX8_riskOf_0 : decode cX8_riskOf 0 = .ok (.aload_n 0, 1) := by decide +kernel
theorem dX8_riskOf_1 : decode cX8_riskOf 1 = .ok (.getfield 7, 3) := by decide +kernel
theorem dX8_riskOf_4 : decode cX8_riskOf 4 = .ok (.iload_n 1, 1) := by decide +kernel
theorem dX8_riskOf_5 : decode cX8_riskOf 5 = .ok (.iconst 1, 1) := by decide +kernel
theorem dX8_riskOf_6 : decode cX8_riskOf 6 = .ok (.invokestatic 55, 3) := by decide +kernel
theorem dX8_riskOf_9 : decode cX8_riskOf 9 = .ok (.iaload, 1) := by decide +kernel
theorem dX8_riskOf_10 : decode cX8_riskOf 10 = .ok (.istore_n 2, 1) := by decide +kernel
theorem dX8_riskOf_11 : decode cX8_riskOf 11 = .ok (.iload_n 2, 1) := by decide +kernel
theorem dX8_riskOf_12 : decode cX8_riskOf 12 = .ok (.iconst 1, 1) := by decide +kernel
theorem dX8_riskOf_13 : decode cX8_riskOf 13 = .ok (.iadd, 1) := by decide +kernel
theorem dX8_riskOf_14 : decode cX8_riskOf 14 = .ok (.i2f, 1) := by decide +kernel
theorem dX8_riskOf_15 : decode cX8_riskOf 15 = .ok (.aload_n 0, 1) := by decide +kernel
theorem dX8_riskOf_16 : decode cX8_riskOf 16 = .ok (.getfield 7, 3) := by decide +kernel
theorem dX8_riskOf_19 : decode cX8_riskOf 19 = .ok (.iload_n 1, 1) := by decide +kernel
theorem dX8_riskOf_20 : decode cX8_riskOf 20 = .ok (.iconst 0, 1) := by decide +kernel
theorem dX8_riskOf_21 : decode cX8_riskOf 21 = .ok (.invokestatic 55, 3) := by decide +kernel
theorem dX8_riskOf_24 : decode cX8_riskOf 24 = .ok (.iaload, 1) := by decide +kernel
theorem dX8_riskOf_25 : decode cX8_riskOf 25 = .ok (.iload_n 2, 1) := by decide +kernel
theorem dX8_riskOf_26 : decode cX8_riskOf 26 = .ok (.iadd, 1) := by decide +kernel
theorem dX8_riskOf_27 : decode cX8_riskOf 27 = .ok (.iconst 2, 1) := by decide +kernel
theorem dX8_riskOf_28 : decode cX8_riskOf 28 = .ok (.iadd, 1) := by decide +kernel
theorem dX8_riskOf_29 : decode cX8_riskOf 29 = .ok (.i2f, 1) := by decide +kernel
theorem dX8_riskOf_30 : decode cX8_riskOf 30 = .ok (.fdiv, 1) := by decide +kernel
theorem dX8_riskOf_31 : decode cX8_riskOf 31 = .ok (.freturn, 1) := by decide +kernel
theorem dX8_late_0 : decode cX8_late 0 = .ok (.aload_n 0, 1) := by decide +kernel
theorem dX8_late_1 : decode cX8_late 1 = .ok (.getfield 7, 3) := by decide +kernel
theorem dX8_late_4 : decode cX8_late 4 = .ok (.iconst 0, 1) := by decide +kernel
theorem dX8_late_5 : decode cX8_late 5 = .ok (.iaload, 1) := by decide +kernel
theorem dX8_late_6 : decode cX8_late 6 = .ok (.iload_n 2, 1) := by decide +kernel
theorem dX8_late_7 : decode cX8_late 7 = .ok (.iadd, 1) := by decide +kernel
theorem dX8_late_8 : decode cX8_late 8 = .ok (.aload_n 0, 1) := by decide +kernel
theorem dX8_late_9 : decode cX8_late 9 = .ok (.getfield 7, 3) := by decide +kernel
theorem dX8_late_12 : decode cX8_late 12 = .ok (.iload_n 1, 1) := by decide +kernel
theorem dX8_late_13 : decode cX8_late 13 = .ok (.iconst 3, 1) := by decide +kernel
theorem dX8_late_14 : decode cX8_late 14 = .ok (.invokestatic 59, 3) := by decide +kernel
theorem dX8_late_17 : decode cX8_late 17 = .ok (.iaload, 1) := by decide +kernel
theorem dX8_late_18 : decode cX8_late 18 = .ok (.isub, 1) := by decide +kernel
theorem dX8_late_19 : decode cX8_late 19 = .ok (.istore_n 3, 1) := by decide +kernel
theorem dX8_late_20 : decode cX8_late 20 = .ok (.iload_n 3, 1) := by decide +kernel
theorem dX8_late_21 : decode cX8_late 21 = .ok (.ifCond .ge 7, 3) := by decide +kernel
theorem dX8_late_24 : decode cX8_late 24 = .ok (.iconst 0, 1) := by decide +kernel
theorem dX8_late_25 : decode cX8_late 25 = .ok (.goto 4, 3) := by decide +kernel
theorem dX8_late_28 : decode cX8_late 28 = .ok (.iload_n 3, 1) := by decide +kernel
theorem dX8_late_29 : decode cX8_late 29 = .ok (.ireturn, 1) := by decide +kernel
theorem dX8_rateBehind_0 : decode cX8_rateBehind 0 = .ok (.aload_n 0, 1) := by decide +kernel
theorem dX8_rateBehind_1 : decode cX8_rateBehind 1 = .ok (.iconst 0, 1) := by decide +kernel
theorem dX8_rateBehind_2 : decode cX8_rateBehind 2 = .ok (.invokevirtual 62, 3) := by decide +kernel
theorem dX8_rateBehind_5 : decode cX8_rateBehind 5 = .ok (.aload_n 0, 1) := by decide +kernel
theorem dX8_rateBehind_6 : decode cX8_rateBehind 6 = .ok (.iconst 1, 1) := by decide +kernel
theorem dX8_rateBehind_7 : decode cX8_rateBehind 7 = .ok (.invokevirtual 62, 3) := by decide +kernel
theorem dX8_rateBehind_10 : decode cX8_rateBehind 10 = .ok (.aload_n 0, 1) := by decide +kernel
theorem dX8_rateBehind_11 : decode cX8_rateBehind 11 = .ok (.iload_n 1, 1) := by decide +kernel
theorem dX8_rateBehind_12 : decode cX8_rateBehind 12 = .ok (.iload_n 2, 1) := by decide +kernel
theorem dX8_rateBehind_13 : decode cX8_rateBehind 13 = .ok (.invokevirtual 65, 3) := by decide +kernel
theorem dX8_rateBehind_16 : decode cX8_rateBehind 16 = .ok (.i2f, 1) := by decide +kernel
theorem dX8_rateBehind_17 : decode cX8_rateBehind 17 = .ok (.fmul, 1) := by decide +kernel
theorem dX8_rateBehind_18 : decode cX8_rateBehind 18 = .ok (.fsub, 1) := by decide +kernel
theorem dX8_rateBehind_19 : decode cX8_rateBehind 19 = .ok (.fstore_n 3, 1) := by decide +kernel
theorem dX8_rateBehind_20 : decode cX8_rateBehind 20 = .ok (.fload_n 3, 1) := by decide +kernel
theorem dX8_rateBehind_21 : decode cX8_rateBehind 21 = .ok (.fconst 0, 1) := by decide +kernel
theorem dX8_rateBehind_22 : decode cX8_rateBehind 22 = .ok (.fcmp .l, 1) := by decide +kernel
theorem dX8_rateBehind_23 : decode cX8_rateBehind 23 = .ok (.ifCond .le 7, 3) := by decide +kernel
theorem dX8_rateBehind_26 : decode cX8_rateBehind 26 = .ok (.fload_n 3, 1) := by decide +kernel
theorem dX8_rateBehind_27 : decode cX8_rateBehind 27 = .ok (.goto 4, 3) := by decide +kernel
theorem dX8_rateBehind_30 : decode cX8_rateBehind 30 = .ok (.fconst 0, 1) := by decide +kernel
theorem dX8_rateBehind_31 : decode cX8_rateBehind 31 = .ok (.fstore 4, 2) := by decide +kernel
theorem dX8_rateBehind_33 : decode cX8_rateBehind 33 = .ok (.fload 4, 2) := by decide +kernel
theorem dX8_rateBehind_35 : decode cX8_rateBehind 35 = .ok (.fconst 1, 1) := by decide +kernel
theorem dX8_rateBehind_36 : decode cX8_rateBehind 36 = .ok (.aload_n 0, 1) := by decide +kernel
theorem dX8_rateBehind_37 : decode cX8_rateBehind 37 = .ok (.aload_n 0, 1) := by decide +kernel
theorem dX8_rateBehind_38 : decode cX8_rateBehind 38 = .ok (.getfield 7, 3) := by decide +kernel
theorem dX8_rateBehind_41 : decode cX8_rateBehind 41 = .ok (.iload_n 1, 1) := by decide +kernel
theorem dX8_rateBehind_42 : decode cX8_rateBehind 42 = .ok (.iconst 1, 1) := by decide +kernel
theorem dX8_rateBehind_43 : decode cX8_rateBehind 43 = .ok (.invokestatic 59, 3) := by decide +kernel
theorem dX8_rateBehind_46 : decode cX8_rateBehind 46 = .ok (.iaload, 1) := by decide +kernel
theorem dX8_rateBehind_47 : decode cX8_rateBehind 47 = .ok (.invokevirtual 68, 3) := by decide +kernel
theorem dX8_rateBehind_50 : decode cX8_rateBehind 50 = .ok (.fsub, 1) := by decide +kernel
theorem dX8_rateBehind_51 : decode cX8_rateBehind 51 = .ok (.fmul, 1) := by decide +kernel
theorem dX8_rateBehind_52 : decode cX8_rateBehind 52 = .ok (.freturn, 1) := by decide +kernel
theorem dX8_offerBehind_0 : decode cX8_offerBehind 0 = .ok (.aload_n 0, 1) := by decide +kernel
theorem dX8_offerBehind_1 : decode cX8_offerBehind 1 = .ok (.getfield 7, 3) := by decide +kernel
theorem dX8_offerBehind_4 : decode cX8_offerBehind 4 = .ok (.iload_n 1, 1) := by decide +kernel
theorem dX8_offerBehind_5 : decode cX8_offerBehind 5 = .ok (.iconst 2, 1) := by decide +kernel
theorem dX8_offerBehind_6 : decode cX8_offerBehind 6 = .ok (.invokestatic 59, 3) := by decide +kernel
theorem dX8_offerBehind_9 : decode cX8_offerBehind 9 = .ok (.iaload, 1) := by decide +kernel
theorem dX8_offerBehind_10 : decode cX8_offerBehind 10 = .ok (.i2f, 1) := by decide +kernel
theorem dX8_offerBehind_11 : decode cX8_offerBehind 11 = .ok (.aload_n 0, 1) := by decide +kernel
theorem dX8_offerBehind_12 : decode cX8_offerBehind 12 = .ok (.iload_n 1, 1) := by decide +kernel
theorem dX8_offerBehind_13 : decode cX8_offerBehind 13 = .ok (.iload_n 2, 1) := by decide +kernel
theorem dX8_offerBehind_14 : decode cX8_offerBehind 14 = .ok (.invokevirtual 71, 3) := by decide +kernel
theorem dX8_offerBehind_17 : decode cX8_offerBehind 17 = .ok (.fmul, 1) := by decide +kernel
theorem dX8_offerBehind_18 : decode cX8_offerBehind 18 = .ok (.f2i, 1) := by decide +kernel
theorem dX8_offerBehind_19 : decode cX8_offerBehind 19 = .ok (.ireturn, 1) := by decide +kernel
theorem dX8_worthOf_0 : decode cX8_worthOf 0 = .ok (.aload_n 0, 1) := by decide +kernel
theorem dX8_worthOf_1 : decode cX8_worthOf 1 = .ok (.aload_n 0, 1) := by decide +kernel
theorem dX8_worthOf_2 : decode cX8_worthOf 2 = .ok (.getfield 7, 3) := by decide +kernel
theorem dX8_worthOf_5 : decode cX8_worthOf 5 = .ok (.iload_n 1, 1) := by decide +kernel
theorem dX8_worthOf_6 : decode cX8_worthOf 6 = .ok (.iconst 1, 1) := by decide +kernel
theorem dX8_worthOf_7 : decode cX8_worthOf 7 = .ok (.invokestatic 59, 3) := by decide +kernel
theorem dX8_worthOf_10 : decode cX8_worthOf 10 = .ok (.iaload, 1) := by decide +kernel
theorem dX8_worthOf_11 : decode cX8_worthOf 11 = .ok (.invokevirtual 68, 3) := by decide +kernel
theorem dX8_worthOf_14 : decode cX8_worthOf 14 = .ok (.fstore_n 2, 1) := by decide +kernel
theorem dX8_worthOf_15 : decode cX8_worthOf 15 = .ok (.aload_n 0, 1) := by decide +kernel
theorem dX8_worthOf_16 : decode cX8_worthOf 16 = .ok (.iload_n 1, 1) := by decide +kernel
theorem dX8_worthOf_17 : decode cX8_worthOf 17 = .ok (.iconst 0, 1) := by decide +kernel
theorem dX8_worthOf_18 : decode cX8_worthOf 18 = .ok (.invokevirtual 75, 3) := by decide +kernel
theorem dX8_worthOf_21 : decode cX8_worthOf 21 = .ok (.istore_n 3, 1) := by decide +kernel
theorem dX8_worthOf_22 : decode cX8_worthOf 22 = .ok (.aload_n 0, 1) := by decide +kernel
theorem dX8_worthOf_23 : decode cX8_worthOf 23 = .ok (.getfield 7, 3) := by decide +kernel
theorem dX8_worthOf_26 : decode cX8_worthOf 26 = .ok (.iload_n 1, 1) := by decide +kernel
theorem dX8_worthOf_27 : decode cX8_worthOf 27 = .ok (.iconst 2, 1) := by decide +kernel
theorem dX8_worthOf_28 : decode cX8_worthOf 28 = .ok (.invokestatic 59, 3) := by decide +kernel
theorem dX8_worthOf_31 : decode cX8_worthOf 31 = .ok (.iaload, 1) := by decide +kernel
theorem dX8_worthOf_32 : decode cX8_worthOf 32 = .ok (.iload_n 3, 1) := by decide +kernel
theorem dX8_worthOf_33 : decode cX8_worthOf 33 = .ok (.isub, 1) := by decide +kernel
theorem dX8_worthOf_34 : decode cX8_worthOf 34 = .ok (.i2f, 1) := by decide +kernel
theorem dX8_worthOf_35 : decode cX8_worthOf 35 = .ok (.fconst 1, 1) := by decide +kernel
theorem dX8_worthOf_36 : decode cX8_worthOf 36 = .ok (.fload_n 2, 1) := by decide +kernel
theorem dX8_worthOf_37 : decode cX8_worthOf 37 = .ok (.fsub, 1) := by decide +kernel
theorem dX8_worthOf_38 : decode cX8_worthOf 38 = .ok (.fmul, 1) := by decide +kernel
theorem dX8_worthOf_39 : decode cX8_worthOf 39 = .ok (.fstore 4, 2) := by decide +kernel
theorem dX8_worthOf_41 : decode cX8_worthOf 41 = .ok (.fload 4, 2) := by decide +kernel
theorem dX8_worthOf_43 : decode cX8_worthOf 43 = .ok (.iload_n 3, 1) := by decide +kernel
theorem dX8_worthOf_44 : decode cX8_worthOf 44 = .ok (.i2f, 1) := by decide +kernel
theorem dX8_worthOf_45 : decode cX8_worthOf 45 = .ok (.fload_n 2, 1) := by decide +kernel
theorem dX8_worthOf_46 : decode cX8_worthOf 46 = .ok (.fmul, 1) := by decide +kernel
theorem dX8_worthOf_47 : decode cX8_worthOf 47 = .ok (.fsub, 1) := by decide +kernel
theorem dX8_worthOf_48 : decode cX8_worthOf 48 = .ok (.freturn, 1) := by decide +kernel
theorem dX8_setRate_0 : decode cX8_setRate 0 = .ok (.iload_n 1, 1) := by decide +kernel
theorem dX8_setRate_1 : decode cX8_setRate 1 = .ok (.iconst 0, 1) := by decide +kernel
theorem dX8_setRate_2 : decode cX8_setRate 2 = .ok (.iconst 2, 1) := by decide +kernel
theorem dX8_setRate_3 : decode cX8_setRate 3 = .ok (.invokestatic 38, 3) := by decide +kernel
theorem dX8_setRate_6 : decode cX8_setRate 6 = .ok (.ifCond .ne 5, 3) := by decide +kernel
theorem dX8_setRate_9 : decode cX8_setRate 9 = .ok (.iconst (-1), 1) := by decide +kernel
theorem dX8_setRate_10 : decode cX8_setRate 10 = .ok (.ireturn, 1) := by decide +kernel
theorem dX8_setRate_11 : decode cX8_setRate 11 = .ok (.iload_n 2, 1) := by decide +kernel
theorem dX8_setRate_12 : decode cX8_setRate 12 = .ok (.ifCond .lt 17, 3) := by decide +kernel
theorem dX8_setRate_15 : decode cX8_setRate 15 = .ok (.iload_n 2, 1) := by decide +kernel
theorem dX8_setRate_16 : decode cX8_setRate 16 = .ok (.bipush 23, 2) := by decide +kernel
theorem dX8_setRate_18 : decode cX8_setRate 18 = .ok (.ishr, 1) := by decide +kernel
theorem dX8_setRate_19 : decode cX8_setRate 19 = .ok (.sipush 255, 3) := by decide +kernel
theorem dX8_setRate_22 : decode cX8_setRate 22 = .ok (.if_icmp .eq 7, 3) := by decide +kernel
theorem dX8_setRate_25 : decode cX8_setRate 25 = .ok (.iconst 1, 1) := by decide +kernel
theorem dX8_setRate_26 : decode cX8_setRate 26 = .ok (.goto 4, 3) := by decide +kernel
theorem dX8_setRate_29 : decode cX8_setRate 29 = .ok (.iconst 0, 1) := by decide +kernel
theorem dX8_setRate_30 : decode cX8_setRate 30 = .ok (.istore_n 3, 1) := by decide +kernel
theorem dX8_setRate_31 : decode cX8_setRate 31 = .ok (.iload_n 3, 1) := by decide +kernel
theorem dX8_setRate_32 : decode cX8_setRate 32 = .ok (.ifCond .eq 10, 3) := by decide +kernel
theorem dX8_setRate_35 : decode cX8_setRate 35 = .ok (.iload_n 2, 1) := by decide +kernel
theorem dX8_setRate_36 : decode cX8_setRate 36 = .ok (.invokestatic 51, 3) := by decide +kernel
theorem dX8_setRate_39 : decode cX8_setRate 39 = .ok (.goto 5, 3) := by decide +kernel
theorem dX8_setRate_42 : decode cX8_setRate 42 = .ok (.ldc 78, 2) := by decide +kernel
theorem dX8_setRate_44 : decode cX8_setRate 44 = .ok (.fstore 4, 2) := by decide +kernel
theorem dX8_setRate_46 : decode cX8_setRate 46 = .ok (.iload_n 1, 1) := by decide +kernel
theorem dX8_setRate_47 : decode cX8_setRate 47 = .ok (.ifCond .ne 8, 3) := by decide +kernel
theorem dX8_setRate_50 : decode cX8_setRate 50 = .ok (.ldc 79, 2) := by decide +kernel
theorem dX8_setRate_52 : decode cX8_setRate 52 = .ok (.goto 4, 3) := by decide +kernel
theorem dX8_setRate_55 : decode cX8_setRate 55 = .ok (.fconst 0, 1) := by decide +kernel
theorem dX8_setRate_56 : decode cX8_setRate 56 = .ok (.fstore 5, 2) := by decide +kernel
theorem dX8_setRate_58 : decode cX8_setRate 58 = .ok (.iload_n 1, 1) := by decide +kernel
theorem dX8_setRate_59 : decode cX8_setRate 59 = .ok (.ifCond .ne 7, 3) := by decide +kernel
theorem dX8_setRate_62 : decode cX8_setRate 62 = .ok (.fconst 1, 1) := by decide +kernel
theorem dX8_setRate_63 : decode cX8_setRate 63 = .ok (.goto 15, 3) := by decide +kernel
theorem dX8_setRate_66 : decode cX8_setRate 66 = .ok (.iload_n 1, 1) := by decide +kernel
theorem dX8_setRate_67 : decode cX8_setRate 67 = .ok (.iconst 1, 1) := by decide +kernel
theorem dX8_setRate_68 : decode cX8_setRate 68 = .ok (.if_icmp .ne 8, 3) := by decide +kernel
theorem dX8_setRate_71 : decode cX8_setRate 71 = .ok (.ldc 80, 2) := by decide +kernel
theorem dX8_setRate_73 : decode cX8_setRate 73 = .ok (.goto 5, 3) := by decide +kernel
theorem dX8_setRate_76 : decode cX8_setRate 76 = .ok (.ldc 50, 2) := by decide +kernel
theorem dX8_setRate_78 : decode cX8_setRate 78 = .ok (.fstore 6, 2) := by decide +kernel
theorem dX8_setRate_80 : decode cX8_setRate 80 = .ok (.fload 4, 2) := by decide +kernel
theorem dX8_setRate_82 : decode cX8_setRate 82 = .ok (.fload 5, 2) := by decide +kernel
theorem dX8_setRate_84 : decode cX8_setRate 84 = .ok (.fcmp .g, 1) := by decide +kernel
theorem dX8_setRate_85 : decode cX8_setRate 85 = .ok (.ifCond .lt 11, 3) := by decide +kernel
theorem dX8_setRate_88 : decode cX8_setRate 88 = .ok (.fload 4, 2) := by decide +kernel
theorem dX8_setRate_90 : decode cX8_setRate 90 = .ok (.fload 6, 2) := by decide +kernel
theorem dX8_setRate_92 : decode cX8_setRate 92 = .ok (.fcmp .l, 1) := by decide +kernel
theorem dX8_setRate_93 : decode cX8_setRate 93 = .ok (.ifCond .le 6, 3) := by decide +kernel
theorem dX8_setRate_96 : decode cX8_setRate 96 = .ok (.bipush (-2), 2) := by decide +kernel
theorem dX8_setRate_98 : decode cX8_setRate 98 = .ok (.ireturn, 1) := by decide +kernel
theorem dX8_setRate_99 : decode cX8_setRate 99 = .ok (.aload_n 0, 1) := by decide +kernel
theorem dX8_setRate_100 : decode cX8_setRate 100 = .ok (.getfield 7, 3) := by decide +kernel
theorem dX8_setRate_103 : decode cX8_setRate 103 = .ok (.iconst 2, 1) := by decide +kernel
theorem dX8_setRate_104 : decode cX8_setRate 104 = .ok (.iload_n 1, 1) := by decide +kernel
theorem dX8_setRate_105 : decode cX8_setRate 105 = .ok (.iadd, 1) := by decide +kernel
theorem dX8_setRate_106 : decode cX8_setRate 106 = .ok (.iaload, 1) := by decide +kernel
theorem dX8_setRate_107 : decode cX8_setRate 107 = .ok (.iload_n 2, 1) := by decide +kernel
theorem dX8_setRate_108 : decode cX8_setRate 108 = .ok (.if_icmp .ne 6, 3) := by decide +kernel
theorem dX8_setRate_111 : decode cX8_setRate 111 = .ok (.bipush (-5), 2) := by decide +kernel
theorem dX8_setRate_113 : decode cX8_setRate 113 = .ok (.ireturn, 1) := by decide +kernel
theorem dX8_setRate_114 : decode cX8_setRate 114 = .ok (.aload_n 0, 1) := by decide +kernel
theorem dX8_setRate_115 : decode cX8_setRate 115 = .ok (.invokevirtual 81, 3) := by decide +kernel
theorem dX8_setRate_118 : decode cX8_setRate 118 = .ok (.aload_n 0, 1) := by decide +kernel
theorem dX8_setRate_119 : decode cX8_setRate 119 = .ok (.getfield 7, 3) := by decide +kernel
theorem dX8_setRate_122 : decode cX8_setRate 122 = .ok (.iconst 2, 1) := by decide +kernel
theorem dX8_setRate_123 : decode cX8_setRate 123 = .ok (.iload_n 1, 1) := by decide +kernel
theorem dX8_setRate_124 : decode cX8_setRate 124 = .ok (.iadd, 1) := by decide +kernel
theorem dX8_setRate_125 : decode cX8_setRate 125 = .ok (.iload_n 2, 1) := by decide +kernel
theorem dX8_setRate_126 : decode cX8_setRate 126 = .ok (.iastore, 1) := by decide +kernel
theorem dX8_setRate_127 : decode cX8_setRate 127 = .ok (.iconst 1, 1) := by decide +kernel
theorem dX8_setRate_128 : decode cX8_setRate 128 = .ok (.ireturn, 1) := by decide +kernel
theorem dX8_setNumber_0 : decode cX8_setNumber 0 = .ok (.iload_n 1, 1) := by decide +kernel
theorem dX8_setNumber_1 : decode cX8_setNumber 1 = .ok (.iconst 0, 1) := by decide +kernel
theorem dX8_setNumber_2 : decode cX8_setNumber 2 = .ok (.iconst 2, 1) := by decide +kernel
theorem dX8_setNumber_3 : decode cX8_setNumber 3 = .ok (.invokestatic 38, 3) := by decide +kernel
theorem dX8_setNumber_6 : decode cX8_setNumber 6 = .ok (.ifCond .ne 5, 3) := by decide +kernel
theorem dX8_setNumber_9 : decode cX8_setNumber 9 = .ok (.iconst (-1), 1) := by decide +kernel
theorem dX8_setNumber_10 : decode cX8_setNumber 10 = .ok (.ireturn, 1) := by decide +kernel
theorem dX8_setNumber_11 : decode cX8_setNumber 11 = .ok (.iload_n 2, 1) := by decide +kernel
theorem dX8_setNumber_12 : decode cX8_setNumber 12 = .ok (.iload_n 1, 1) := by decide +kernel
theorem dX8_setNumber_13 : decode cX8_setNumber 13 = .ok (.iconst 2, 1) := by decide +kernel
theorem dX8_setNumber_14 : decode cX8_setNumber 14 = .ok (.if_icmp .ne 7, 3) := by decide +kernel
theorem dX8_setNumber_17 : decode cX8_setNumber 17 = .ok (.iconst 1, 1) := by decide +kernel
theorem dX8_setNumber_18 : decode cX8_setNumber 18 = .ok (.goto 4, 3) := by decide +kernel
theorem dX8_setNumber_21 : decode cX8_setNumber 21 = .ok (.iconst 0, 1) := by decide +kernel
theorem dX8_setNumber_22 : decode cX8_setNumber 22 = .ok (.iload_n 1, 1) := by decide +kernel
theorem dX8_setNumber_23 : decode cX8_setNumber 23 = .ok (.iconst 2, 1) := by decide +kernel
theorem dX8_setNumber_24 : decode cX8_setNumber 24 = .ok (.if_icmp .ne 9, 3) := by decide +kernel
theorem dX8_setNumber_27 : decode cX8_setNumber 27 = .ok (.sipush 365, 3) := by decide +kernel
theorem dX8_setNumber_30 : decode cX8_setNumber 30 = .ok (.goto 5, 3) := by decide +kernel
theorem dX8_setNumber_33 : decode cX8_setNumber 33 = .ok (.bipush 90, 2) := by decide +kernel
theorem dX8_setNumber_35 : decode cX8_setNumber 35 = .ok (.invokestatic 38, 3) := by decide +kernel
theorem dX8_setNumber_38 : decode cX8_setNumber 38 = .ok (.ifCond .ne 6, 3) := by decide +kernel
theorem dX8_setNumber_41 : decode cX8_setNumber 41 = .ok (.bipush (-2), 2) := by decide +kernel
theorem dX8_setNumber_43 : decode cX8_setNumber 43 = .ok (.ireturn, 1) := by decide +kernel
theorem dX8_setNumber_44 : decode cX8_setNumber 44 = .ok (.aload_n 0, 1) := by decide +kernel
theorem dX8_setNumber_45 : decode cX8_setNumber 45 = .ok (.getfield 7, 3) := by decide +kernel
theorem dX8_setNumber_48 : decode cX8_setNumber 48 = .ok (.iconst 5, 1) := by decide +kernel
theorem dX8_setNumber_49 : decode cX8_setNumber 49 = .ok (.iload_n 1, 1) := by decide +kernel
theorem dX8_setNumber_50 : decode cX8_setNumber 50 = .ok (.iadd, 1) := by decide +kernel
theorem dX8_setNumber_51 : decode cX8_setNumber 51 = .ok (.iaload, 1) := by decide +kernel
theorem dX8_setNumber_52 : decode cX8_setNumber 52 = .ok (.istore_n 3, 1) := by decide +kernel
theorem dX8_setNumber_53 : decode cX8_setNumber 53 = .ok (.iload_n 3, 1) := by decide +kernel
theorem dX8_setNumber_54 : decode cX8_setNumber 54 = .ok (.iload_n 2, 1) := by decide +kernel
theorem dX8_setNumber_55 : decode cX8_setNumber 55 = .ok (.if_icmp .ne 6, 3) := by decide +kernel
theorem dX8_setNumber_58 : decode cX8_setNumber 58 = .ok (.bipush (-5), 2) := by decide +kernel
theorem dX8_setNumber_60 : decode cX8_setNumber 60 = .ok (.ireturn, 1) := by decide +kernel
theorem dX8_setNumber_61 : decode cX8_setNumber 61 = .ok (.aload_n 0, 1) := by decide +kernel
theorem dX8_setNumber_62 : decode cX8_setNumber 62 = .ok (.invokevirtual 81, 3) := by decide +kernel
theorem dX8_setNumber_65 : decode cX8_setNumber 65 = .ok (.aload_n 0, 1) := by decide +kernel
theorem dX8_setNumber_66 : decode cX8_setNumber 66 = .ok (.getfield 7, 3) := by decide +kernel
theorem dX8_setNumber_69 : decode cX8_setNumber 69 = .ok (.iconst 5, 1) := by decide +kernel
theorem dX8_setNumber_70 : decode cX8_setNumber 70 = .ok (.iload_n 1, 1) := by decide +kernel
theorem dX8_setNumber_71 : decode cX8_setNumber 71 = .ok (.iadd, 1) := by decide +kernel
theorem dX8_setNumber_72 : decode cX8_setNumber 72 = .ok (.iload_n 2, 1) := by decide +kernel
theorem dX8_setNumber_73 : decode cX8_setNumber 73 = .ok (.iastore, 1) := by decide +kernel
theorem dX8_setNumber_74 : decode cX8_setNumber 74 = .ok (.iload_n 3, 1) := by decide +kernel
theorem dX8_setNumber_75 : decode cX8_setNumber 75 = .ok (.ireturn, 1) := by decide +kernel
theorem dX8_addMember_0 : decode cX8_addMember 0 = .ok (.iload_n 1, 1) := by decide +kernel
theorem dX8_addMember_1 : decode cX8_addMember 1 = .ok (.iconst 1, 1) := by decide +kernel
theorem dX8_addMember_2 : decode cX8_addMember 2 = .ok (.bipush 9, 2) := by decide +kernel
theorem dX8_addMember_4 : decode cX8_addMember 4 = .ok (.invokestatic 38, 3) := by decide +kernel
theorem dX8_addMember_7 : decode cX8_addMember 7 = .ok (.ifCond .ne 6, 3) := by decide +kernel
theorem dX8_addMember_10 : decode cX8_addMember 10 = .ok (.bipush (-2), 2) := by decide +kernel
theorem dX8_addMember_12 : decode cX8_addMember 12 = .ok (.ireturn, 1) := by decide +kernel
theorem dX8_addMember_13 : decode cX8_addMember 13 = .ok (.aload_n 0, 1) := by decide +kernel
theorem dX8_addMember_14 : decode cX8_addMember 14 = .ok (.getfield 7, 3) := by decide +kernel
theorem dX8_addMember_17 : decode cX8_addMember 17 = .ok (.bipush 8, 2) := by decide +kernel
theorem dX8_addMember_19 : decode cX8_addMember 19 = .ok (.iaload, 1) := by decide +kernel
theorem dX8_addMember_20 : decode cX8_addMember 20 = .ok (.bipush 8, 2) := by decide +kernel
theorem dX8_addMember_22 : decode cX8_addMember 22 = .ok (.if_icmp .ne 6, 3) := by decide +kernel
theorem dX8_addMember_25 : decode cX8_addMember 25 = .ok (.bipush (-3), 2) := by decide +kernel
theorem dX8_addMember_27 : decode cX8_addMember 27 = .ok (.ireturn, 1) := by decide +kernel
theorem dX8_addMember_28 : decode cX8_addMember 28 = .ok (.aload_n 0, 1) := by decide +kernel
theorem dX8_addMember_29 : decode cX8_addMember 29 = .ok (.invokevirtual 81, 3) := by decide +kernel
theorem dX8_addMember_32 : decode cX8_addMember 32 = .ok (.aload_n 0, 1) := by decide +kernel
theorem dX8_addMember_33 : decode cX8_addMember 33 = .ok (.getfield 7, 3) := by decide +kernel
theorem dX8_addMember_36 : decode cX8_addMember 36 = .ok (.bipush 8, 2) := by decide +kernel
theorem dX8_addMember_38 : decode cX8_addMember 38 = .ok (.iaload, 1) := by decide +kernel
theorem dX8_addMember_39 : decode cX8_addMember 39 = .ok (.istore_n 2, 1) := by decide +kernel
theorem dX8_addMember_40 : decode cX8_addMember 40 = .ok (.aload_n 0, 1) := by decide +kernel
theorem dX8_addMember_41 : decode cX8_addMember 41 = .ok (.getfield 7, 3) := by decide +kernel
theorem dX8_addMember_44 : decode cX8_addMember 44 = .ok (.iload_n 2, 1) := by decide +kernel
theorem dX8_addMember_45 : decode cX8_addMember 45 = .ok (.iconst 0, 1) := by decide +kernel
theorem dX8_addMember_46 : decode cX8_addMember 46 = .ok (.invokestatic 84, 3) := by decide +kernel
theorem dX8_addMember_49 : decode cX8_addMember 49 = .ok (.iload_n 1, 1) := by decide +kernel
theorem dX8_addMember_50 : decode cX8_addMember 50 = .ok (.iastore, 1) := by decide +kernel
theorem dX8_addMember_51 : decode cX8_addMember 51 = .ok (.aload_n 0, 1) := by decide +kernel
theorem dX8_addMember_52 : decode cX8_addMember 52 = .ok (.getfield 7, 3) := by decide +kernel
theorem dX8_addMember_55 : decode cX8_addMember 55 = .ok (.iload_n 2, 1) := by decide +kernel
theorem dX8_addMember_56 : decode cX8_addMember 56 = .ok (.iconst 1, 1) := by decide +kernel
theorem dX8_addMember_57 : decode cX8_addMember 57 = .ok (.invokestatic 84, 3) := by decide +kernel
theorem dX8_addMember_60 : decode cX8_addMember 60 = .ok (.iconst 0, 1) := by decide +kernel
theorem dX8_addMember_61 : decode cX8_addMember 61 = .ok (.iastore, 1) := by decide +kernel
theorem dX8_addMember_62 : decode cX8_addMember 62 = .ok (.aload_n 0, 1) := by decide +kernel
theorem dX8_addMember_63 : decode cX8_addMember 63 = .ok (.getfield 7, 3) := by decide +kernel
theorem dX8_addMember_66 : decode cX8_addMember 66 = .ok (.iload_n 2, 1) := by decide +kernel
theorem dX8_addMember_67 : decode cX8_addMember 67 = .ok (.iconst 2, 1) := by decide +kernel
theorem dX8_addMember_68 : decode cX8_addMember 68 = .ok (.invokestatic 84, 3) := by decide +kernel
theorem dX8_addMember_71 : decode cX8_addMember 71 = .ok (.iconst 0, 1) := by decide +kernel
theorem dX8_addMember_72 : decode cX8_addMember 72 = .ok (.iastore, 1) := by decide +kernel
theorem dX8_addMember_73 : decode cX8_addMember 73 = .ok (.aload_n 0, 1) := by decide +kernel
theorem dX8_addMember_74 : decode cX8_addMember 74 = .ok (.getfield 7, 3) := by decide +kernel
theorem dX8_addMember_77 : decode cX8_addMember 77 = .ok (.iload_n 2, 1) := by decide +kernel
theorem dX8_addMember_78 : decode cX8_addMember 78 = .ok (.iconst 3, 1) := by decide +kernel
theorem dX8_addMember_79 : decode cX8_addMember 79 = .ok (.invokestatic 84, 3) := by decide +kernel
theorem dX8_addMember_82 : decode cX8_addMember 82 = .ok (.iconst 0, 1) := by decide +kernel
theorem dX8_addMember_83 : decode cX8_addMember 83 = .ok (.iastore, 1) := by decide +kernel
theorem dX8_addMember_84 : decode cX8_addMember 84 = .ok (.aload_n 0, 1) := by decide +kernel
theorem dX8_addMember_85 : decode cX8_addMember 85 = .ok (.getfield 7, 3) := by decide +kernel
theorem dX8_addMember_88 : decode cX8_addMember 88 = .ok (.bipush 8, 2) := by decide +kernel
theorem dX8_addMember_90 : decode cX8_addMember 90 = .ok (.dup2, 1) := by decide +kernel
theorem dX8_addMember_91 : decode cX8_addMember 91 = .ok (.iaload, 1) := by decide +kernel
theorem dX8_addMember_92 : decode cX8_addMember 92 = .ok (.iconst 1, 1) := by decide +kernel
theorem dX8_addMember_93 : decode cX8_addMember 93 = .ok (.iadd, 1) := by decide +kernel
theorem dX8_addMember_94 : decode cX8_addMember 94 = .ok (.iastore, 1) := by decide +kernel
theorem dX8_addMember_95 : decode cX8_addMember 95 = .ok (.iload_n 2, 1) := by decide +kernel
theorem dX8_addMember_96 : decode cX8_addMember 96 = .ok (.ireturn, 1) := by decide +kernel
theorem dX8_payDues_0 : decode cX8_payDues 0 = .ok (.aload_n 0, 1) := by decide +kernel
theorem dX8_payDues_1 : decode cX8_payDues 1 = .ok (.iload_n 1, 1) := by decide +kernel
theorem dX8_payDues_2 : decode cX8_payDues 2 = .ok (.invokevirtual 87, 3) := by decide +kernel
theorem dX8_payDues_5 : decode cX8_payDues 5 = .ok (.ifCond .ne 5, 3) := by decide +kernel
theorem dX8_payDues_8 : decode cX8_payDues 8 = .ok (.iconst (-1), 1) := by decide +kernel
theorem dX8_payDues_9 : decode cX8_payDues 9 = .ok (.ireturn, 1) := by decide +kernel
theorem dX8_payDues_10 : decode cX8_payDues 10 = .ok (.iload_n 2, 1) := by decide +kernel
theorem dX8_payDues_11 : decode cX8_payDues 11 = .ok (.iconst 1, 1) := by decide +kernel
theorem dX8_payDues_12 : decode cX8_payDues 12 = .ok (.ldc 91, 2) := by decide +kernel
theorem dX8_payDues_14 : decode cX8_payDues 14 = .ok (.invokestatic 38, 3) := by decide +kernel
theorem dX8_payDues_17 : decode cX8_payDues 17 = .ok (.ifCond .ne 6, 3) := by decide +kernel
theorem dX8_payDues_20 : decode cX8_payDues 20 = .ok (.bipush (-2), 2) := by decide +kernel
theorem dX8_payDues_22 : decode cX8_payDues 22 = .ok (.ireturn, 1) := by decide +kernel
theorem dX8_payDues_23 : decode cX8_payDues 23 = .ok (.aload_n 0, 1) := by decide +kernel
theorem dX8_payDues_24 : decode cX8_payDues 24 = .ok (.getfield 7, 3) := by decide +kernel
theorem dX8_payDues_27 : decode cX8_payDues 27 = .ok (.iload_n 1, 1) := by decide +kernel
theorem dX8_payDues_28 : decode cX8_payDues 28 = .ok (.iconst 1, 1) := by decide +kernel
theorem dX8_payDues_29 : decode cX8_payDues 29 = .ok (.invokestatic 84, 3) := by decide +kernel
theorem dX8_payDues_32 : decode cX8_payDues 32 = .ok (.iaload, 1) := by decide +kernel
theorem dX8_payDues_33 : decode cX8_payDues 33 = .ok (.iload_n 2, 1) := by decide +kernel
theorem dX8_payDues_34 : decode cX8_payDues 34 = .ok (.iadd, 1) := by decide +kernel
theorem dX8_payDues_35 : decode cX8_payDues 35 = .ok (.ldc 92, 2) := by decide +kernel
theorem dX8_payDues_37 : decode cX8_payDues 37 = .ok (.if_icmp .le 6, 3) := by decide +kernel
theorem dX8_payDues_40 : decode cX8_payDues 40 = .ok (.bipush (-3), 2) := by decide +kernel
theorem dX8_payDues_42 : decode cX8_payDues 42 = .ok (.ireturn, 1) := by decide +kernel
theorem dX8_payDues_43 : decode cX8_payDues 43 = .ok (.aload_n 0, 1) := by decide +kernel
theorem dX8_payDues_44 : decode cX8_payDues 44 = .ok (.invokevirtual 81, 3) := by decide +kernel
theorem dX8_payDues_47 : decode cX8_payDues 47 = .ok (.aload_n 0, 1) := by decide +kernel
theorem dX8_payDues_48 : decode cX8_payDues 48 = .ok (.getfield 7, 3) := by decide +kernel
theorem dX8_payDues_51 : decode cX8_payDues 51 = .ok (.iload_n 1, 1) := by decide +kernel
theorem dX8_payDues_52 : decode cX8_payDues 52 = .ok (.iconst 1, 1) := by decide +kernel
theorem dX8_payDues_53 : decode cX8_payDues 53 = .ok (.invokestatic 84, 3) := by decide +kernel
theorem dX8_payDues_56 : decode cX8_payDues 56 = .ok (.dup2, 1) := by decide +kernel
theorem dX8_payDues_57 : decode cX8_payDues 57 = .ok (.iaload, 1) := by decide +kernel
theorem dX8_payDues_58 : decode cX8_payDues 58 = .ok (.iload_n 2, 1) := by decide +kernel
theorem dX8_payDues_59 : decode cX8_payDues 59 = .ok (.iadd, 1) := by decide +kernel
theorem dX8_payDues_60 : decode cX8_payDues 60 = .ok (.iastore, 1) := by decide +kernel
theorem dX8_payDues_61 : decode cX8_payDues 61 = .ok (.aload_n 0, 1) := by decide +kernel
theorem dX8_payDues_62 : decode cX8_payDues 62 = .ok (.getfield 7, 3) := by decide +kernel
theorem dX8_payDues_65 : decode cX8_payDues 65 = .ok (.iconst 1, 1) := by decide +kernel
theorem dX8_payDues_66 : decode cX8_payDues 66 = .ok (.dup2, 1) := by decide +kernel
theorem dX8_payDues_67 : decode cX8_payDues 67 = .ok (.iaload, 1) := by decide +kernel
theorem dX8_payDues_68 : decode cX8_payDues 68 = .ok (.iload_n 2, 1) := by decide +kernel
theorem dX8_payDues_69 : decode cX8_payDues 69 = .ok (.iadd, 1) := by decide +kernel
theorem dX8_payDues_70 : decode cX8_payDues 70 = .ok (.iastore, 1) := by decide +kernel
theorem dX8_payDues_71 : decode cX8_payDues 71 = .ok (.aload_n 0, 1) := by decide +kernel
theorem dX8_payDues_72 : decode cX8_payDues 72 = .ok (.getfield 7, 3) := by decide +kernel
theorem dX8_payDues_75 : decode cX8_payDues 75 = .ok (.iload_n 1, 1) := by decide +kernel
theorem dX8_payDues_76 : decode cX8_payDues 76 = .ok (.iconst 1, 1) := by decide +kernel
theorem dX8_payDues_77 : decode cX8_payDues 77 = .ok (.invokestatic 84, 3) := by decide +kernel
theorem dX8_payDues_80 : decode cX8_payDues 80 = .ok (.iaload, 1) := by decide +kernel
theorem dX8_payDues_81 : decode cX8_payDues 81 = .ok (.ireturn, 1) := by decide +kernel
theorem dX8_addInvoice_0 : decode cX8_addInvoice 0 = .ok (.aload_n 0, 1) := by decide +kernel
theorem dX8_addInvoice_1 : decode cX8_addInvoice 1 = .ok (.iload_n 1, 1) := by decide +kernel
theorem dX8_addInvoice_2 : decode cX8_addInvoice 2 = .ok (.invokevirtual 87, 3) := by decide +kernel
theorem dX8_addInvoice_5 : decode cX8_addInvoice 5 = .ok (.ifCond .eq 10, 3) := by decide +kernel
theorem dX8_addInvoice_8 : decode cX8_addInvoice 8 = .ok (.iload_n 2, 1) := by decide +kernel
theorem dX8_addInvoice_9 : decode cX8_addInvoice 9 = .ok (.invokestatic 93, 3) := by decide +kernel
theorem dX8_addInvoice_12 : decode cX8_addInvoice 12 = .ok (.ifCond .ne 5, 3) := by decide +kernel
theorem dX8_addInvoice_15 : decode cX8_addInvoice 15 = .ok (.iconst (-1), 1) := by decide +kernel
theorem dX8_addInvoice_16 : decode cX8_addInvoice 16 = .ok (.ireturn, 1) := by decide +kernel
theorem dX8_addInvoice_17 : decode cX8_addInvoice 17 = .ok (.iload_n 3, 1) := by decide +kernel
theorem dX8_addInvoice_18 : decode cX8_addInvoice 18 = .ok (.bipush 100, 2) := by decide +kernel
theorem dX8_addInvoice_20 : decode cX8_addInvoice 20 = .ok (.ldc 91, 2) := by decide +kernel
theorem dX8_addInvoice_22 : decode cX8_addInvoice 22 = .ok (.invokestatic 38, 3) := by decide +kernel
theorem dX8_addInvoice_25 : decode cX8_addInvoice 25 = .ok (.ifCond .eq 15, 3) := by decide +kernel
theorem dX8_addInvoice_28 : decode cX8_addInvoice 28 = .ok (.iload 4, 2) := by decide +kernel
theorem dX8_addInvoice_30 : decode cX8_addInvoice 30 = .ok (.iconst 0, 1) := by decide +kernel
theorem dX8_addInvoice_31 : decode cX8_addInvoice 31 = .ok (.sipush 9999, 3) := by decide +kernel
theorem dX8_addInvoice_34 : decode cX8_addInvoice 34 = .ok (.invokestatic 38, 3) := by decide +kernel
theorem dX8_addInvoice_37 : decode cX8_addInvoice 37 = .ok (.ifCond .ne 6, 3) := by decide +kernel
theorem dX8_addInvoice_40 : decode cX8_addInvoice 40 = .ok (.bipush (-2), 2) := by decide +kernel
theorem dX8_addInvoice_42 : decode cX8_addInvoice 42 = .ok (.ireturn, 1) := by decide +kernel
theorem dX8_addInvoice_43 : decode cX8_addInvoice 43 = .ok (.aload_n 0, 1) := by decide +kernel
theorem dX8_addInvoice_44 : decode cX8_addInvoice 44 = .ok (.getfield 7, 3) := by decide +kernel
theorem dX8_addInvoice_47 : decode cX8_addInvoice 47 = .ok (.bipush 9, 2) := by decide +kernel
theorem dX8_addInvoice_49 : decode cX8_addInvoice 49 = .ok (.iaload, 1) := by decide +kernel
theorem dX8_addInvoice_50 : decode cX8_addInvoice 50 = .ok (.bipush 20, 2) := by decide +kernel
theorem dX8_addInvoice_52 : decode cX8_addInvoice 52 = .ok (.if_icmp .ne 6, 3) := by decide +kernel
theorem dX8_addInvoice_55 : decode cX8_addInvoice 55 = .ok (.bipush (-3), 2) := by decide +kernel
theorem dX8_addInvoice_57 : decode cX8_addInvoice 57 = .ok (.ireturn, 1) := by decide +kernel
theorem dX8_addInvoice_58 : decode cX8_addInvoice 58 = .ok (.aload_n 0, 1) := by decide +kernel
theorem dX8_addInvoice_59 : decode cX8_addInvoice 59 = .ok (.invokevirtual 81, 3) := by decide +kernel
theorem dX8_addInvoice_62 : decode cX8_addInvoice 62 = .ok (.aload_n 0, 1) := by decide +kernel
theorem dX8_addInvoice_63 : decode cX8_addInvoice 63 = .ok (.getfield 7, 3) := by decide +kernel
theorem dX8_addInvoice_66 : decode cX8_addInvoice 66 = .ok (.bipush 9, 2) := by decide +kernel
theorem dX8_addInvoice_68 : decode cX8_addInvoice 68 = .ok (.iaload, 1) := by decide +kernel
theorem dX8_addInvoice_69 : decode cX8_addInvoice 69 = .ok (.istore 5, 2) := by decide +kernel
theorem dX8_addInvoice_71 : decode cX8_addInvoice 71 = .ok (.aload_n 0, 1) := by decide +kernel
theorem dX8_addInvoice_72 : decode cX8_addInvoice 72 = .ok (.getfield 7, 3) := by decide +kernel
theorem dX8_addInvoice_75 : decode cX8_addInvoice 75 = .ok (.iload 5, 2) := by decide +kernel
theorem dX8_addInvoice_77 : decode cX8_addInvoice 77 = .ok (.iconst 0, 1) := by decide +kernel
theorem dX8_addInvoice_78 : decode cX8_addInvoice 78 = .ok (.invokestatic 59, 3) := by decide +kernel
theorem dX8_addInvoice_81 : decode cX8_addInvoice 81 = .ok (.iload_n 1, 1) := by decide +kernel
theorem dX8_addInvoice_82 : decode cX8_addInvoice 82 = .ok (.iastore, 1) := by decide +kernel
theorem dX8_addInvoice_83 : decode cX8_addInvoice 83 = .ok (.aload_n 0, 1) := by decide +kernel
theorem dX8_addInvoice_84 : decode cX8_addInvoice 84 = .ok (.getfield 7, 3) := by decide +kernel
theorem dX8_addInvoice_87 : decode cX8_addInvoice 87 = .ok (.iload 5, 2) := by decide +kernel
theorem dX8_addInvoice_89 : decode cX8_addInvoice 89 = .ok (.iconst 1, 1) := by decide +kernel
theorem dX8_addInvoice_90 : decode cX8_addInvoice 90 = .ok (.invokestatic 59, 3) := by decide +kernel
theorem dX8_addInvoice_93 : decode cX8_addInvoice 93 = .ok (.iload_n 2, 1) := by decide +kernel
theorem dX8_addInvoice_94 : decode cX8_addInvoice 94 = .ok (.iastore, 1) := by decide +kernel
theorem dX8_addInvoice_95 : decode cX8_addInvoice 95 = .ok (.aload_n 0, 1) := by decide +kernel
theorem dX8_addInvoice_96 : decode cX8_addInvoice 96 = .ok (.getfield 7, 3) := by decide +kernel
theorem dX8_addInvoice_99 : decode cX8_addInvoice 99 = .ok (.iload 5, 2) := by decide +kernel
theorem dX8_addInvoice_101 : decode cX8_addInvoice 101 = .ok (.iconst 2, 1) := by decide +kernel
theorem dX8_addInvoice_102 : decode cX8_addInvoice 102 = .ok (.invokestatic 59, 3) := by decide +kernel
theorem dX8_addInvoice_105 : decode cX8_addInvoice 105 = .ok (.iload_n 3, 1) := by decide +kernel
theorem dX8_addInvoice_106 : decode cX8_addInvoice 106 = .ok (.iastore, 1) := by decide +kernel
theorem dX8_addInvoice_107 : decode cX8_addInvoice 107 = .ok (.aload_n 0, 1) := by decide +kernel
theorem dX8_addInvoice_108 : decode cX8_addInvoice 108 = .ok (.getfield 7, 3) := by decide +kernel
theorem dX8_addInvoice_111 : decode cX8_addInvoice 111 = .ok (.iload 5, 2) := by decide +kernel
theorem dX8_addInvoice_113 : decode cX8_addInvoice 113 = .ok (.iconst 3, 1) := by decide +kernel
theorem dX8_addInvoice_114 : decode cX8_addInvoice 114 = .ok (.invokestatic 59, 3) := by decide +kernel
theorem dX8_addInvoice_117 : decode cX8_addInvoice 117 = .ok (.iload 4, 2) := by decide +kernel
theorem dX8_addInvoice_119 : decode cX8_addInvoice 119 = .ok (.iastore, 1) := by decide +kernel
theorem dX8_addInvoice_120 : decode cX8_addInvoice 120 = .ok (.aload_n 0, 1) := by decide +kernel
theorem dX8_addInvoice_121 : decode cX8_addInvoice 121 = .ok (.getfield 7, 3) := by decide +kernel
theorem dX8_addInvoice_124 : decode cX8_addInvoice 124 = .ok (.iload 5, 2) := by decide +kernel
theorem dX8_addInvoice_126 : decode cX8_addInvoice 126 = .ok (.iconst 4, 1) := by decide +kernel
theorem dX8_addInvoice_127 : decode cX8_addInvoice 127 = .ok (.invokestatic 59, 3) := by decide +kernel
theorem dX8_addInvoice_130 : decode cX8_addInvoice 130 = .ok (.iconst 0, 1) := by decide +kernel
theorem dX8_addInvoice_131 : decode cX8_addInvoice 131 = .ok (.iastore, 1) := by decide +kernel
theorem dX8_addInvoice_132 : decode cX8_addInvoice 132 = .ok (.aload_n 0, 1) := by decide +kernel
theorem dX8_addInvoice_133 : decode cX8_addInvoice 133 = .ok (.getfield 7, 3) := by decide +kernel
theorem dX8_addInvoice_136 : decode cX8_addInvoice 136 = .ok (.iload 5, 2) := by decide +kernel
theorem dX8_addInvoice_138 : decode cX8_addInvoice 138 = .ok (.iconst 5, 1) := by decide +kernel
theorem dX8_addInvoice_139 : decode cX8_addInvoice 139 = .ok (.invokestatic 59, 3) := by decide +kernel
theorem dX8_addInvoice_142 : decode cX8_addInvoice 142 = .ok (.iconst 0, 1) := by decide +kernel
theorem dX8_addInvoice_143 : decode cX8_addInvoice 143 = .ok (.iastore, 1) := by decide +kernel
theorem dX8_addInvoice_144 : decode cX8_addInvoice 144 = .ok (.aload_n 0, 1) := by decide +kernel
theorem dX8_addInvoice_145 : decode cX8_addInvoice 145 = .ok (.getfield 7, 3) := by decide +kernel
theorem dX8_addInvoice_148 : decode cX8_addInvoice 148 = .ok (.iload 5, 2) := by decide +kernel
theorem dX8_addInvoice_150 : decode cX8_addInvoice 150 = .ok (.bipush 6, 2) := by decide +kernel
theorem dX8_addInvoice_152 : decode cX8_addInvoice 152 = .ok (.invokestatic 59, 3) := by decide +kernel
theorem dX8_addInvoice_155 : decode cX8_addInvoice 155 = .ok (.iconst 0, 1) := by decide +kernel
theorem dX8_addInvoice_156 : decode cX8_addInvoice 156 = .ok (.iastore, 1) := by decide +kernel
theorem dX8_addInvoice_157 : decode cX8_addInvoice 157 = .ok (.aload_n 0, 1) := by decide +kernel
theorem dX8_addInvoice_158 : decode cX8_addInvoice 158 = .ok (.getfield 7, 3) := by decide +kernel
theorem dX8_addInvoice_161 : decode cX8_addInvoice 161 = .ok (.bipush 9, 2) := by decide +kernel
theorem dX8_addInvoice_163 : decode cX8_addInvoice 163 = .ok (.dup2, 1) := by decide +kernel
theorem dX8_addInvoice_164 : decode cX8_addInvoice 164 = .ok (.iaload, 1) := by decide +kernel
theorem dX8_addInvoice_165 : decode cX8_addInvoice 165 = .ok (.iconst 1, 1) := by decide +kernel
theorem dX8_addInvoice_166 : decode cX8_addInvoice 166 = .ok (.iadd, 1) := by decide +kernel
theorem dX8_addInvoice_167 : decode cX8_addInvoice 167 = .ok (.iastore, 1) := by decide +kernel
theorem dX8_addInvoice_168 : decode cX8_addInvoice 168 = .ok (.iload 5, 2) := by decide +kernel
theorem dX8_addInvoice_170 : decode cX8_addInvoice 170 = .ok (.ireturn, 1) := by decide +kernel
theorem dX8_allDues_0 : decode cX8_allDues 0 = .ok (.iconst 0, 1) := by decide +kernel
theorem dX8_allDues_1 : decode cX8_allDues 1 = .ok (.istore_n 1, 1) := by decide +kernel
theorem dX8_allDues_2 : decode cX8_allDues 2 = .ok (.iconst 0, 1) := by decide +kernel
theorem dX8_allDues_3 : decode cX8_allDues 3 = .ok (.istore_n 2, 1) := by decide +kernel
theorem dX8_allDues_4 : decode cX8_allDues 4 = .ok (.iload_n 2, 1) := by decide +kernel
theorem dX8_allDues_5 : decode cX8_allDues 5 = .ok (.aload_n 0, 1) := by decide +kernel
theorem dX8_allDues_6 : decode cX8_allDues 6 = .ok (.getfield 7, 3) := by decide +kernel
theorem dX8_allDues_9 : decode cX8_allDues 9 = .ok (.bipush 8, 2) := by decide +kernel
theorem dX8_allDues_11 : decode cX8_allDues 11 = .ok (.iaload, 1) := by decide +kernel
theorem dX8_allDues_12 : decode cX8_allDues 12 = .ok (.if_icmp .ge 22, 3) := by decide +kernel
theorem dX8_allDues_15 : decode cX8_allDues 15 = .ok (.iload_n 1, 1) := by decide +kernel
theorem dX8_allDues_16 : decode cX8_allDues 16 = .ok (.aload_n 0, 1) := by decide +kernel
theorem dX8_allDues_17 : decode cX8_allDues 17 = .ok (.getfield 7, 3) := by decide +kernel
theorem dX8_allDues_20 : decode cX8_allDues 20 = .ok (.iload_n 2, 1) := by decide +kernel
theorem dX8_allDues_21 : decode cX8_allDues 21 = .ok (.iconst 1, 1) := by decide +kernel
theorem dX8_allDues_22 : decode cX8_allDues 22 = .ok (.invokestatic 84, 3) := by decide +kernel
theorem dX8_allDues_25 : decode cX8_allDues 25 = .ok (.iaload, 1) := by decide +kernel
theorem dX8_allDues_26 : decode cX8_allDues 26 = .ok (.iadd, 1) := by decide +kernel
theorem dX8_allDues_27 : decode cX8_allDues 27 = .ok (.istore_n 1, 1) := by decide +kernel
theorem dX8_allDues_28 : decode cX8_allDues 28 = .ok (.iinc 2 1, 3) := by decide +kernel
theorem dX8_allDues_31 : decode cX8_allDues 31 = .ok (.goto (-27), 3) := by decide +kernel
theorem dX8_allDues_34 : decode cX8_allDues 34 = .ok (.iload_n 1, 1) := by decide +kernel
theorem dX8_allDues_35 : decode cX8_allDues 35 = .ok (.ireturn, 1) := by decide +kernel
theorem dX8_reserve_0 : decode cX8_reserve 0 = .ok (.aload_n 0, 1) := by decide +kernel
theorem dX8_reserve_1 : decode cX8_reserve 1 = .ok (.invokevirtual 96, 3) := by decide +kernel
theorem dX8_reserve_4 : decode cX8_reserve 4 = .ok (.i2l, 1) := by decide +kernel
theorem dX8_reserve_5 : decode cX8_reserve 5 = .ok (.aload_n 0, 1) := by decide +kernel
theorem dX8_reserve_6 : decode cX8_reserve 6 = .ok (.getfield 7, 3) := by decide +kernel
theorem dX8_reserve_9 : decode cX8_reserve 9 = .ok (.bipush 6, 2) := by decide +kernel
theorem dX8_reserve_11 : decode cX8_reserve 11 = .ok (.iaload, 1) := by decide +kernel
theorem dX8_reserve_12 : decode cX8_reserve 12 = .ok (.i2l, 1) := by decide +kernel
theorem dX8_reserve_13 : decode cX8_reserve 13 = .ok (.lmul, 1) := by decide +kernel
theorem dX8_reserve_14 : decode cX8_reserve 14 = .ok (.ldc2_w 100, 3) := by decide +kernel
theorem dX8_reserve_17 : decode cX8_reserve 17 = .ok (.ldiv, 1) := by decide +kernel
theorem dX8_reserve_18 : decode cX8_reserve 18 = .ok (.l2i, 1) := by decide +kernel
theorem dX8_reserve_19 : decode cX8_reserve 19 = .ok (.ireturn, 1) := by decide +kernel
theorem dX8_mayAhead_0 : decode cX8_mayAhead 0 = .ok (.aload_n 0, 1) := by decide +kernel
theorem dX8_mayAhead_1 : decode cX8_mayAhead 1 = .ok (.iload_n 1, 1) := by decide +kernel
theorem dX8_mayAhead_2 : decode cX8_mayAhead 2 = .ok (.iconst 0, 1) := by decide +kernel
theorem dX8_mayAhead_3 : decode cX8_mayAhead 3 = .ok (.invokevirtual 75, 3) := by decide +kernel
theorem dX8_mayAhead_6 : decode cX8_mayAhead 6 = .ok (.istore_n 2, 1) := by decide +kernel
theorem dX8_mayAhead_7 : decode cX8_mayAhead 7 = .ok (.aload_n 0, 1) := by decide +kernel
theorem dX8_mayAhead_8 : decode cX8_mayAhead 8 = .ok (.getfield 7, 3) := by decide +kernel
theorem dX8_mayAhead_11 : decode cX8_mayAhead 11 = .ok (.iload_n 1, 1) := by decide +kernel
theorem dX8_mayAhead_12 : decode cX8_mayAhead 12 = .ok (.iconst 4, 1) := by decide +kernel
theorem dX8_mayAhead_13 : decode cX8_mayAhead 13 = .ok (.invokestatic 59, 3) := by decide +kernel
theorem dX8_mayAhead_16 : decode cX8_mayAhead 16 = .ok (.iaload, 1) := by decide +kernel
theorem dX8_mayAhead_17 : decode cX8_mayAhead 17 = .ok (.ifCond .ne 46, 3) := by decide +kernel
theorem dX8_mayAhead_20 : decode cX8_mayAhead 20 = .ok (.aload_n 0, 1) := by decide +kernel
theorem dX8_mayAhead_21 : decode cX8_mayAhead 21 = .ok (.getfield 7, 3) := by decide +kernel
theorem dX8_mayAhead_24 : decode cX8_mayAhead 24 = .ok (.iload_n 1, 1) := by decide +kernel
theorem dX8_mayAhead_25 : decode cX8_mayAhead 25 = .ok (.iconst 5, 1) := by decide +kernel
theorem dX8_mayAhead_26 : decode cX8_mayAhead 26 = .ok (.invokestatic 59, 3) := by decide +kernel
theorem dX8_mayAhead_29 : decode cX8_mayAhead 29 = .ok (.iaload, 1) := by decide +kernel
theorem dX8_mayAhead_30 : decode cX8_mayAhead 30 = .ok (.ifCond .ne 33, 3) := by decide +kernel
theorem dX8_mayAhead_33 : decode cX8_mayAhead 33 = .ok (.aload_n 0, 1) := by decide +kernel
theorem dX8_mayAhead_34 : decode cX8_mayAhead 34 = .ok (.getfield 7, 3) := by decide +kernel
theorem dX8_mayAhead_37 : decode cX8_mayAhead 37 = .ok (.iconst 0, 1) := by decide +kernel
theorem dX8_mayAhead_38 : decode cX8_mayAhead 38 = .ok (.iaload, 1) := by decide +kernel
theorem dX8_mayAhead_39 : decode cX8_mayAhead 39 = .ok (.aload_n 0, 1) := by decide +kernel
theorem dX8_mayAhead_40 : decode cX8_mayAhead 40 = .ok (.getfield 7, 3) := by decide +kernel
theorem dX8_mayAhead_43 : decode cX8_mayAhead 43 = .ok (.iload_n 1, 1) := by decide +kernel
theorem dX8_mayAhead_44 : decode cX8_mayAhead 44 = .ok (.iconst 3, 1) := by decide +kernel
theorem dX8_mayAhead_45 : decode cX8_mayAhead 45 = .ok (.invokestatic 59, 3) := by decide +kernel
theorem dX8_mayAhead_48 : decode cX8_mayAhead 48 = .ok (.iaload, 1) := by decide +kernel
theorem dX8_mayAhead_49 : decode cX8_mayAhead 49 = .ok (.isub, 1) := by decide +kernel
theorem dX8_mayAhead_50 : decode cX8_mayAhead 50 = .ok (.aload_n 0, 1) := by decide +kernel
theorem dX8_mayAhead_51 : decode cX8_mayAhead 51 = .ok (.getfield 7, 3) := by decide +kernel
theorem dX8_mayAhead_54 : decode cX8_mayAhead 54 = .ok (.iconst 5, 1) := by decide +kernel
theorem dX8_mayAhead_55 : decode cX8_mayAhead 55 = .ok (.iaload, 1) := by decide +kernel
theorem dX8_mayAhead_56 : decode cX8_mayAhead 56 = .ok (.if_icmp .lt 7, 3) := by decide +kernel
theorem dX8_mayAhead_59 : decode cX8_mayAhead 59 = .ok (.iconst 1, 1) := by decide +kernel
theorem dX8_mayAhead_60 : decode cX8_mayAhead 60 = .ok (.goto 4, 3) := by decide +kernel
theorem dX8_mayAhead_63 : decode cX8_mayAhead 63 = .ok (.iconst 0, 1) := by decide +kernel
theorem dX8_mayAhead_64 : decode cX8_mayAhead 64 = .ok (.istore_n 3, 1) := by decide +kernel
theorem dX8_mayAhead_65 : decode cX8_mayAhead 65 = .ok (.iload_n 3, 1) := by decide +kernel
theorem dX8_mayAhead_66 : decode cX8_mayAhead 66 = .ok (.ifCond .eq 26, 3) := by decide +kernel
theorem dX8_mayAhead_69 : decode cX8_mayAhead 69 = .ok (.iload_n 2, 1) := by decide +kernel
theorem dX8_mayAhead_70 : decode cX8_mayAhead 70 = .ok (.ifCond .le 22, 3) := by decide +kernel
theorem dX8_mayAhead_73 : decode cX8_mayAhead 73 = .ok (.aload_n 0, 1) := by decide +kernel
theorem dX8_mayAhead_74 : decode cX8_mayAhead 74 = .ok (.getfield 7, 3) := by decide +kernel
theorem dX8_mayAhead_77 : decode cX8_mayAhead 77 = .ok (.iconst 1, 1) := by decide +kernel
theorem dX8_mayAhead_78 : decode cX8_mayAhead 78 = .ok (.iaload, 1) := by decide +kernel
theorem dX8_mayAhead_79 : decode cX8_mayAhead 79 = .ok (.iload_n 2, 1) := by decide +kernel
theorem dX8_mayAhead_80 : decode cX8_mayAhead 80 = .ok (.isub, 1) := by decide +kernel
theorem dX8_mayAhead_81 : decode cX8_mayAhead 81 = .ok (.aload_n 0, 1) := by decide +kernel
theorem dX8_mayAhead_82 : decode cX8_mayAhead 82 = .ok (.invokevirtual 102, 3) := by decide +kernel
theorem dX8_mayAhead_85 : decode cX8_mayAhead 85 = .ok (.if_icmp .lt 7, 3) := by decide +kernel
theorem dX8_mayAhead_88 : decode cX8_mayAhead 88 = .ok (.iconst 1, 1) := by decide +kernel
theorem dX8_mayAhead_89 : decode cX8_mayAhead 89 = .ok (.goto 4, 3) := by decide +kernel
theorem dX8_mayAhead_92 : decode cX8_mayAhead 92 = .ok (.iconst 0, 1) := by decide +kernel
theorem dX8_mayAhead_93 : decode cX8_mayAhead 93 = .ok (.ireturn, 1) := by decide +kernel
theorem dX8_payAhead_0 : decode cX8_payAhead 0 = .ok (.aload_n 0, 1) := by decide +kernel
theorem dX8_payAhead_1 : decode cX8_payAhead 1 = .ok (.iload_n 1, 1) := by decide +kernel
theorem dX8_payAhead_2 : decode cX8_payAhead 2 = .ok (.invokevirtual 105, 3) := by decide +kernel
theorem dX8_payAhead_5 : decode cX8_payAhead 5 = .ok (.ifCond .ne 5, 3) := by decide +kernel
theorem dX8_payAhead_8 : decode cX8_payAhead 8 = .ok (.iconst (-1), 1) := by decide +kernel
theorem dX8_payAhead_9 : decode cX8_payAhead 9 = .ok (.ireturn, 1) := by decide +kernel
theorem dX8_payAhead_10 : decode cX8_payAhead 10 = .ok (.aload_n 0, 1) := by decide +kernel
theorem dX8_payAhead_11 : decode cX8_payAhead 11 = .ok (.iload_n 1, 1) := by decide +kernel
theorem dX8_payAhead_12 : decode cX8_payAhead 12 = .ok (.invokevirtual 108, 3) := by decide +kernel
theorem dX8_payAhead_15 : decode cX8_payAhead 15 = .ok (.ifCond .ne 6, 3) := by decide +kernel
theorem dX8_payAhead_18 : decode cX8_payAhead 18 = .ok (.bipush (-4), 2) := by decide +kernel
theorem dX8_payAhead_20 : decode cX8_payAhead 20 = .ok (.ireturn, 1) := by decide +kernel
theorem dX8_payAhead_21 : decode cX8_payAhead 21 = .ok (.aload_n 0, 1) := by decide +kernel
theorem dX8_payAhead_22 : decode cX8_payAhead 22 = .ok (.invokevirtual 81, 3) := by decide +kernel
theorem dX8_payAhead_25 : decode cX8_payAhead 25 = .ok (.aload_n 0, 1) := by decide +kernel
theorem dX8_payAhead_26 : decode cX8_payAhead 26 = .ok (.iload_n 1, 1) := by decide +kernel
theorem dX8_payAhead_27 : decode cX8_payAhead 27 = .ok (.iconst 0, 1) := by decide +kernel
theorem dX8_payAhead_28 : decode cX8_payAhead 28 = .ok (.invokevirtual 75, 3) := by decide +kernel
theorem dX8_payAhead_31 : decode cX8_payAhead 31 = .ok (.istore_n 2, 1) := by decide +kernel
theorem dX8_payAhead_32 : decode cX8_payAhead 32 = .ok (.aload_n 0, 1) := by decide +kernel
theorem dX8_payAhead_33 : decode cX8_payAhead 33 = .ok (.getfield 7, 3) := by decide +kernel
theorem dX8_payAhead_36 : decode cX8_payAhead 36 = .ok (.iload_n 1, 1) := by decide +kernel
theorem dX8_payAhead_37 : decode cX8_payAhead 37 = .ok (.iconst 4, 1) := by decide +kernel
theorem dX8_payAhead_38 : decode cX8_payAhead 38 = .ok (.invokestatic 59, 3) := by decide +kernel
theorem dX8_payAhead_41 : decode cX8_payAhead 41 = .ok (.iconst 1, 1) := by decide +kernel
theorem dX8_payAhead_42 : decode cX8_payAhead 42 = .ok (.iastore, 1) := by decide +kernel
theorem dX8_payAhead_43 : decode cX8_payAhead 43 = .ok (.aload_n 0, 1) := by decide +kernel
theorem dX8_payAhead_44 : decode cX8_payAhead 44 = .ok (.getfield 7, 3) := by decide +kernel
theorem dX8_payAhead_47 : decode cX8_payAhead 47 = .ok (.iload_n 1, 1) := by decide +kernel
theorem dX8_payAhead_48 : decode cX8_payAhead 48 = .ok (.bipush 6, 2) := by decide +kernel
theorem dX8_payAhead_50 : decode cX8_payAhead 50 = .ok (.invokestatic 59, 3) := by decide +kernel
theorem dX8_payAhead_53 : decode cX8_payAhead 53 = .ok (.iload_n 2, 1) := by decide +kernel
theorem dX8_payAhead_54 : decode cX8_payAhead 54 = .ok (.iastore, 1) := by decide +kernel
theorem dX8_payAhead_55 : decode cX8_payAhead 55 = .ok (.aload_n 0, 1) := by decide +kernel
theorem dX8_payAhead_56 : decode cX8_payAhead 56 = .ok (.getfield 7, 3) := by decide +kernel
theorem dX8_payAhead_59 : decode cX8_payAhead 59 = .ok (.iconst 1, 1) := by decide +kernel
theorem dX8_payAhead_60 : decode cX8_payAhead 60 = .ok (.dup2, 1) := by decide +kernel
theorem dX8_payAhead_61 : decode cX8_payAhead 61 = .ok (.iaload, 1) := by decide +kernel
theorem dX8_payAhead_62 : decode cX8_payAhead 62 = .ok (.iload_n 2, 1) := by decide +kernel
theorem dX8_payAhead_63 : decode cX8_payAhead 63 = .ok (.isub, 1) := by decide +kernel
theorem dX8_payAhead_64 : decode cX8_payAhead 64 = .ok (.iastore, 1) := by decide +kernel
theorem dX8_payAhead_65 : decode cX8_payAhead 65 = .ok (.aload_n 0, 1) := by decide +kernel
theorem dX8_payAhead_66 : decode cX8_payAhead 66 = .ok (.getfield 7, 3) := by decide +kernel
theorem dX8_payAhead_69 : decode cX8_payAhead 69 = .ok (.aload_n 0, 1) := by decide +kernel
theorem dX8_payAhead_70 : decode cX8_payAhead 70 = .ok (.getfield 7, 3) := by decide +kernel
theorem dX8_payAhead_73 : decode cX8_payAhead 73 = .ok (.iload_n 1, 1) := by decide +kernel
theorem dX8_payAhead_74 : decode cX8_payAhead 74 = .ok (.iconst 0, 1) := by decide +kernel
theorem dX8_payAhead_75 : decode cX8_payAhead 75 = .ok (.invokestatic 59, 3) := by decide +kernel
theorem dX8_payAhead_78 : decode cX8_payAhead 78 = .ok (.iaload, 1) := by decide +kernel
theorem dX8_payAhead_79 : decode cX8_payAhead 79 = .ok (.iconst 2, 1) := by decide +kernel
theorem dX8_payAhead_80 : decode cX8_payAhead 80 = .ok (.invokestatic 84, 3) := by decide +kernel
theorem dX8_payAhead_83 : decode cX8_payAhead 83 = .ok (.dup2, 1) := by decide +kernel
theorem dX8_payAhead_84 : decode cX8_payAhead 84 = .ok (.iaload, 1) := by decide +kernel
theorem dX8_payAhead_85 : decode cX8_payAhead 85 = .ok (.iload_n 2, 1) := by decide +kernel
theorem dX8_payAhead_86 : decode cX8_payAhead 86 = .ok (.iadd, 1) := by decide +kernel
theorem dX8_payAhead_87 : decode cX8_payAhead 87 = .ok (.iastore, 1) := by decide +kernel
theorem dX8_payAhead_88 : decode cX8_payAhead 88 = .ok (.aload_n 0, 1) := by decide +kernel
theorem dX8_payAhead_89 : decode cX8_payAhead 89 = .ok (.getfield 7, 3) := by decide +kernel
theorem dX8_payAhead_92 : decode cX8_payAhead 92 = .ok (.bipush 10, 2) := by decide +kernel
theorem dX8_payAhead_94 : decode cX8_payAhead 94 = .ok (.dup2, 1) := by decide +kernel
theorem dX8_payAhead_95 : decode cX8_payAhead 95 = .ok (.iaload, 1) := by decide +kernel
theorem dX8_payAhead_96 : decode cX8_payAhead 96 = .ok (.iload_n 2, 1) := by decide +kernel
theorem dX8_payAhead_97 : decode cX8_payAhead 97 = .ok (.iadd, 1) := by decide +kernel
theorem dX8_payAhead_98 : decode cX8_payAhead 98 = .ok (.iastore, 1) := by decide +kernel
theorem dX8_payAhead_99 : decode cX8_payAhead 99 = .ok (.iload_n 2, 1) := by decide +kernel
theorem dX8_payAhead_100 : decode cX8_payAhead 100 = .ok (.ireturn, 1) := by decide +kernel
theorem dX8_payFault_0 : decode cX8_payFault 0 = .ok (.aload_n 0, 1) := by decide +kernel
theorem dX8_payFault_1 : decode cX8_payFault 1 = .ok (.iload_n 1, 1) := by decide +kernel
theorem dX8_payFault_2 : decode cX8_payFault 2 = .ok (.invokevirtual 105, 3) := by decide +kernel
theorem dX8_payFault_5 : decode cX8_payFault 5 = .ok (.ifCond .ne 5, 3) := by decide +kernel
theorem dX8_payFault_8 : decode cX8_payFault 8 = .ok (.iconst (-1), 1) := by decide +kernel
theorem dX8_payFault_9 : decode cX8_payFault 9 = .ok (.ireturn, 1) := by decide +kernel
theorem dX8_payFault_10 : decode cX8_payFault 10 = .ok (.aload_n 0, 1) := by decide +kernel
theorem dX8_payFault_11 : decode cX8_payFault 11 = .ok (.getfield 7, 3) := by decide +kernel
theorem dX8_payFault_14 : decode cX8_payFault 14 = .ok (.iload_n 1, 1) := by decide +kernel
theorem dX8_payFault_15 : decode cX8_payFault 15 = .ok (.iconst 4, 1) := by decide +kernel
theorem dX8_payFault_16 : decode cX8_payFault 16 = .ok (.invokestatic 59, 3) := by decide +kernel
theorem dX8_payFault_19 : decode cX8_payFault 19 = .ok (.iaload, 1) := by decide +kernel
theorem dX8_payFault_20 : decode cX8_payFault 20 = .ok (.iconst 1, 1) := by decide +kernel
theorem dX8_payFault_21 : decode cX8_payFault 21 = .ok (.if_icmp .le 6, 3) := by decide +kernel
theorem dX8_payFault_24 : decode cX8_payFault 24 = .ok (.bipush (-4), 2) := by decide +kernel
theorem dX8_payFault_26 : decode cX8_payFault 26 = .ok (.ireturn, 1) := by decide +kernel
theorem dX8_payFault_27 : decode cX8_payFault 27 = .ok (.iload_n 2, 1) := by decide +kernel
theorem dX8_payFault_28 : decode cX8_payFault 28 = .ok (.iconst 1, 1) := by decide +kernel
theorem dX8_payFault_29 : decode cX8_payFault 29 = .ok (.aload_n 0, 1) := by decide +kernel
theorem dX8_payFault_30 : decode cX8_payFault 30 = .ok (.getfield 7, 3) := by decide +kernel
theorem dX8_payFault_33 : decode cX8_payFault 33 = .ok (.iload_n 1, 1) := by decide +kernel
theorem dX8_payFault_34 : decode cX8_payFault 34 = .ok (.iconst 2, 1) := by decide +kernel
theorem dX8_payFault_35 : decode cX8_payFault 35 = .ok (.invokestatic 59, 3) := by decide +kernel
theorem dX8_payFault_38 : decode cX8_payFault 38 = .ok (.iaload, 1) := by decide +kernel
theorem dX8_payFault_39 : decode cX8_payFault 39 = .ok (.aload_n 0, 1) := by decide +kernel
theorem dX8_payFault_40 : decode cX8_payFault 40 = .ok (.getfield 7, 3) := by decide +kernel
theorem dX8_payFault_43 : decode cX8_payFault 43 = .ok (.iload_n 1, 1) := by decide +kernel
theorem dX8_payFault_44 : decode cX8_payFault 44 = .ok (.iconst 5, 1) := by decide +kernel
theorem dX8_payFault_45 : decode cX8_payFault 45 = .ok (.invokestatic 59, 3) := by decide +kernel
theorem dX8_payFault_48 : decode cX8_payFault 48 = .ok (.iaload, 1) := by decide +kernel
theorem dX8_payFault_49 : decode cX8_payFault 49 = .ok (.isub, 1) := by decide +kernel
theorem dX8_payFault_50 : decode cX8_payFault 50 = .ok (.invokestatic 38, 3) := by decide +kernel
theorem dX8_payFault_53 : decode cX8_payFault 53 = .ok (.ifCond .eq 7, 3) := by decide +kernel
theorem dX8_payFault_56 : decode cX8_payFault 56 = .ok (.iconst 0, 1) := by decide +kernel
theorem dX8_payFault_57 : decode cX8_payFault 57 = .ok (.goto 5, 3) := by decide +kernel
theorem dX8_payFault_60 : decode cX8_payFault 60 = .ok (.bipush (-2), 2) := by decide +kernel
theorem dX8_payFault_62 : decode cX8_payFault 62 = .ok (.ireturn, 1) := by decide +kernel
theorem dX8_pays_0 : decode cX8_pays 0 = .ok (.aload_n 0, 1) := by decide +kernel
theorem dX8_pays_1 : decode cX8_pays 1 = .ok (.getfield 7, 3) := by decide +kernel
theorem dX8_pays_4 : decode cX8_pays 4 = .ok (.iload_n 1, 1) := by decide +kernel
theorem dX8_pays_5 : decode cX8_pays 5 = .ok (.iconst 0, 1) := by decide +kernel
theorem dX8_pays_6 : decode cX8_pays 6 = .ok (.invokestatic 59, 3) := by decide +kernel
theorem dX8_pays_9 : decode cX8_pays 9 = .ok (.iaload, 1) := by decide +kernel
theorem dX8_pays_10 : decode cX8_pays 10 = .ok (.iconst 2, 1) := by decide +kernel
theorem dX8_pays_11 : decode cX8_pays 11 = .ok (.invokestatic 84, 3) := by decide +kernel
theorem dX8_pays_14 : decode cX8_pays 14 = .ok (.istore_n 3, 1) := by decide +kernel
theorem dX8_pays_15 : decode cX8_pays 15 = .ok (.aload_n 0, 1) := by decide +kernel
theorem dX8_pays_16 : decode cX8_pays 16 = .ok (.getfield 7, 3) := by decide +kernel
theorem dX8_pays_19 : decode cX8_pays 19 = .ok (.iload_n 1, 1) := by decide +kernel
theorem dX8_pays_20 : decode cX8_pays 20 = .ok (.iconst 4, 1) := by decide +kernel
theorem dX8_pays_21 : decode cX8_pays 21 = .ok (.invokestatic 59, 3) := by decide +kernel
theorem dX8_pays_24 : decode cX8_pays 24 = .ok (.iaload, 1) := by decide +kernel
theorem dX8_pays_25 : decode cX8_pays 25 = .ok (.iconst 1, 1) := by decide +kernel
theorem dX8_pays_26 : decode cX8_pays 26 = .ok (.if_icmp .ne 7, 3) := by decide +kernel
theorem dX8_pays_29 : decode cX8_pays 29 = .ok (.iconst 1, 1) := by decide +kernel
theorem dX8_pays_30 : decode cX8_pays 30 = .ok (.goto 4, 3) := by decide +kernel
theorem dX8_pays_33 : decode cX8_pays 33 = .ok (.iconst 0, 1) := by decide +kernel
theorem dX8_pays_34 : decode cX8_pays 34 = .ok (.istore 4, 2) := by decide +kernel
theorem dX8_pays_36 : decode cX8_pays 36 = .ok (.aload_n 0, 1) := by decide +kernel
theorem dX8_pays_37 : decode cX8_pays 37 = .ok (.getfield 7, 3) := by decide +kernel
theorem dX8_pays_40 : decode cX8_pays 40 = .ok (.iload_n 1, 1) := by decide +kernel
theorem dX8_pays_41 : decode cX8_pays 41 = .ok (.iconst 1, 1) := by decide +kernel
theorem dX8_pays_42 : decode cX8_pays 42 = .ok (.invokestatic 59, 3) := by decide +kernel
theorem dX8_pays_45 : decode cX8_pays 45 = .ok (.iaload, 1) := by decide +kernel
theorem dX8_pays_46 : decode cX8_pays 46 = .ok (.istore 5, 2) := by decide +kernel
theorem dX8_pays_48 : decode cX8_pays 48 = .ok (.aload_n 0, 1) := by decide +kernel
theorem dX8_pays_49 : decode cX8_pays 49 = .ok (.getfield 7, 3) := by decide +kernel
theorem dX8_pays_52 : decode cX8_pays 52 = .ok (.iload_n 1, 1) := by decide +kernel
theorem dX8_pays_53 : decode cX8_pays 53 = .ok (.iconst 5, 1) := by decide +kernel
theorem dX8_pays_54 : decode cX8_pays 54 = .ok (.invokestatic 59, 3) := by decide +kernel
theorem dX8_pays_57 : decode cX8_pays 57 = .ok (.dup2, 1) := by decide +kernel
theorem dX8_pays_58 : decode cX8_pays 58 = .ok (.iaload, 1) := by decide +kernel
theorem dX8_pays_59 : decode cX8_pays 59 = .ok (.iload_n 2, 1) := by decide +kernel
theorem dX8_pays_60 : decode cX8_pays 60 = .ok (.iadd, 1) := by decide +kernel
theorem dX8_pays_61 : decode cX8_pays 61 = .ok (.iastore, 1) := by decide +kernel
theorem dX8_pays_62 : decode cX8_pays 62 = .ok (.aload_n 0, 1) := by decide +kernel
theorem dX8_pays_63 : decode cX8_pays 63 = .ok (.getfield 7, 3) := by decide +kernel
theorem dX8_pays_66 : decode cX8_pays 66 = .ok (.bipush 11, 2) := by decide +kernel
theorem dX8_pays_68 : decode cX8_pays 68 = .ok (.dup2, 1) := by decide +kernel
theorem dX8_pays_69 : decode cX8_pays 69 = .ok (.iaload, 1) := by decide +kernel
theorem dX8_pays_70 : decode cX8_pays 70 = .ok (.iload_n 2, 1) := by decide +kernel
theorem dX8_pays_71 : decode cX8_pays 71 = .ok (.iadd, 1) := by decide +kernel
theorem dX8_pays_72 : decode cX8_pays 72 = .ok (.iastore, 1) := by decide +kernel
theorem dX8_pays_73 : decode cX8_pays 73 = .ok (.aload_n 0, 1) := by decide +kernel
theorem dX8_pays_74 : decode cX8_pays 74 = .ok (.getfield 7, 3) := by decide +kernel
theorem dX8_pays_77 : decode cX8_pays 77 = .ok (.iload 4, 2) := by decide +kernel
theorem dX8_pays_79 : decode cX8_pays 79 = .ok (.ifCond .eq 7, 3) := by decide +kernel
theorem dX8_pays_82 : decode cX8_pays 82 = .ok (.iconst 1, 1) := by decide +kernel
theorem dX8_pays_83 : decode cX8_pays 83 = .ok (.goto 4, 3) := by decide +kernel
theorem dX8_pays_86 : decode cX8_pays 86 = .ok (.iload_n 3, 1) := by decide +kernel
theorem dX8_pays_87 : decode cX8_pays 87 = .ok (.dup2, 1) := by decide +kernel
theorem dX8_pays_88 : decode cX8_pays 88 = .ok (.iaload, 1) := by decide +kernel
theorem dX8_pays_89 : decode cX8_pays 89 = .ok (.iload_n 2, 1) := by decide +kernel
theorem dX8_pays_90 : decode cX8_pays 90 = .ok (.iadd, 1) := by decide +kernel
theorem dX8_pays_91 : decode cX8_pays 91 = .ok (.iastore, 1) := by decide +kernel
theorem dX8_pays_92 : decode cX8_pays 92 = .ok (.aload_n 0, 1) := by decide +kernel
theorem dX8_pays_93 : decode cX8_pays 93 = .ok (.getfield 7, 3) := by decide +kernel
theorem dX8_pays_96 : decode cX8_pays 96 = .ok (.iload_n 1, 1) := by decide +kernel
theorem dX8_pays_97 : decode cX8_pays 97 = .ok (.iconst 2, 1) := by decide +kernel
theorem dX8_pays_98 : decode cX8_pays 98 = .ok (.invokestatic 59, 3) := by decide +kernel
theorem dX8_pays_101 : decode cX8_pays 101 = .ok (.iaload, 1) := by decide +kernel
theorem dX8_pays_102 : decode cX8_pays 102 = .ok (.aload_n 0, 1) := by decide +kernel
theorem dX8_pays_103 : decode cX8_pays 103 = .ok (.getfield 7, 3) := by decide +kernel
theorem dX8_pays_106 : decode cX8_pays 106 = .ok (.iload_n 1, 1) := by decide +kernel
theorem dX8_pays_107 : decode cX8_pays 107 = .ok (.iconst 5, 1) := by decide +kernel
theorem dX8_pays_108 : decode cX8_pays 108 = .ok (.invokestatic 59, 3) := by decide +kernel
theorem dX8_pays_111 : decode cX8_pays 111 = .ok (.iaload, 1) := by decide +kernel
theorem dX8_pays_112 : decode cX8_pays 112 = .ok (.isub, 1) := by decide +kernel
theorem dX8_pays_113 : decode cX8_pays 113 = .ok (.istore 6, 2) := by decide +kernel
theorem dX8_pays_115 : decode cX8_pays 115 = .ok (.iload 6, 2) := by decide +kernel
theorem dX8_pays_117 : decode cX8_pays 117 = .ok (.ifCond .le 6, 3) := by decide +kernel
theorem dX8_pays_120 : decode cX8_pays 120 = .ok (.iload 6, 2) := by decide +kernel
theorem dX8_pays_122 : decode cX8_pays 122 = .ok (.ireturn, 1) := by decide +kernel
theorem dX8_pays_123 : decode cX8_pays 123 = .ok (.aload_n 0, 1) := by decide +kernel
theorem dX8_pays_124 : decode cX8_pays 124 = .ok (.getfield 7, 3) := by decide +kernel
theorem dX8_pays_127 : decode cX8_pays 127 = .ok (.iload_n 1, 1) := by decide +kernel
theorem dX8_pays_128 : decode cX8_pays 128 = .ok (.iconst 4, 1) := by decide +kernel
theorem dX8_pays_129 : decode cX8_pays 129 = .ok (.invokestatic 59, 3) := by decide +kernel
theorem dX8_pays_132 : decode cX8_pays 132 = .ok (.iconst 2, 1) := by decide +kernel
theorem dX8_pays_133 : decode cX8_pays 133 = .ok (.iastore, 1) := by decide +kernel
theorem dX8_pays_134 : decode cX8_pays 134 = .ok (.aload_n 0, 1) := by decide +kernel
theorem dX8_pays_135 : decode cX8_pays 135 = .ok (.getfield 7, 3) := by decide +kernel
theorem dX8_pays_138 : decode cX8_pays 138 = .ok (.iload 5, 2) := by decide +kernel
theorem dX8_pays_140 : decode cX8_pays 140 = .ok (.iconst 0, 1) := by decide +kernel
theorem dX8_pays_141 : decode cX8_pays 141 = .ok (.invokestatic 55, 3) := by decide +kernel
theorem dX8_pays_144 : decode cX8_pays 144 = .ok (.dup2, 1) := by decide +kernel
theorem dX8_pays_145 : decode cX8_pays 145 = .ok (.iaload, 1) := by decide +kernel
theorem dX8_pays_146 : decode cX8_pays 146 = .ok (.iconst 1, 1) := by decide +kernel
theorem dX8_pays_147 : decode cX8_pays 147 = .ok (.iadd, 1) := by decide +kernel
theorem dX8_pays_148 : decode cX8_pays 148 = .ok (.iastore, 1) := by decide +kernel
theorem dX8_pays_149 : decode cX8_pays 149 = .ok (.aload_n 0, 1) := by decide +kernel
theorem dX8_pays_150 : decode cX8_pays 150 = .ok (.getfield 7, 3) := by decide +kernel
theorem dX8_pays_153 : decode cX8_pays 153 = .ok (.iload 5, 2) := by decide +kernel
theorem dX8_pays_155 : decode cX8_pays 155 = .ok (.iconst 2, 1) := by decide +kernel
theorem dX8_pays_156 : decode cX8_pays 156 = .ok (.invokestatic 55, 3) := by decide +kernel
theorem dX8_pays_159 : decode cX8_pays 159 = .ok (.dup2, 1) := by decide +kernel
theorem dX8_pays_160 : decode cX8_pays 160 = .ok (.iaload, 1) := by decide +kernel
theorem dX8_pays_161 : decode cX8_pays 161 = .ok (.aload_n 0, 1) := by decide +kernel
theorem dX8_pays_162 : decode cX8_pays 162 = .ok (.iload_n 1, 1) := by decide +kernel
theorem dX8_pays_163 : decode cX8_pays 163 = .ok (.iconst 0, 1) := by decide +kernel
theorem dX8_pays_164 : decode cX8_pays 164 = .ok (.invokevirtual 65, 3) := by decide +kernel
theorem dX8_pays_167 : decode cX8_pays 167 = .ok (.iadd, 1) := by decide +kernel
theorem dX8_pays_168 : decode cX8_pays 168 = .ok (.iastore, 1) := by decide +kernel
theorem dX8_pays_169 : decode cX8_pays 169 = .ok (.aload_n 0, 1) := by decide +kernel
theorem dX8_pays_170 : decode cX8_pays 170 = .ok (.getfield 7, 3) := by decide +kernel
theorem dX8_pays_173 : decode cX8_pays 173 = .ok (.iload_n 1, 1) := by decide +kernel
theorem dX8_pays_174 : decode cX8_pays 174 = .ok (.iconst 2, 1) := by decide +kernel
theorem dX8_pays_175 : decode cX8_pays 175 = .ok (.invokestatic 59, 3) := by decide +kernel
theorem dX8_pays_178 : decode cX8_pays 178 = .ok (.iaload, 1) := by decide +kernel
theorem dX8_pays_179 : decode cX8_pays 179 = .ok (.i2f, 1) := by decide +kernel
theorem dX8_pays_180 : decode cX8_pays 180 = .ok (.aload_n 0, 1) := by decide +kernel
theorem dX8_pays_181 : decode cX8_pays 181 = .ok (.iconst 2, 1) := by decide +kernel
theorem dX8_pays_182 : decode cX8_pays 182 = .ok (.invokevirtual 62, 3) := by decide +kernel
theorem dX8_pays_185 : decode cX8_pays 185 = .ok (.fmul, 1) := by decide +kernel
theorem dX8_pays_186 : decode cX8_pays 186 = .ok (.f2i, 1) := by decide +kernel
theorem dX8_pays_187 : decode cX8_pays 187 = .ok (.istore 7, 2) := by decide +kernel
theorem dX8_pays_189 : decode cX8_pays 189 = .ok (.aload_n 0, 1) := by decide +kernel
theorem dX8_pays_190 : decode cX8_pays 190 = .ok (.getfield 7, 3) := by decide +kernel
theorem dX8_pays_193 : decode cX8_pays 193 = .ok (.iload_n 1, 1) := by decide +kernel
theorem dX8_pays_194 : decode cX8_pays 194 = .ok (.iconst 2, 1) := by decide +kernel
theorem dX8_pays_195 : decode cX8_pays 195 = .ok (.invokestatic 59, 3) := by decide +kernel
theorem dX8_pays_198 : decode cX8_pays 198 = .ok (.iaload, 1) := by decide +kernel
theorem dX8_pays_199 : decode cX8_pays 199 = .ok (.aload_n 0, 1) := by decide +kernel
theorem dX8_pays_200 : decode cX8_pays 200 = .ok (.getfield 7, 3) := by decide +kernel
theorem dX8_pays_203 : decode cX8_pays 203 = .ok (.iload_n 1, 1) := by decide +kernel
theorem dX8_pays_204 : decode cX8_pays 204 = .ok (.bipush 6, 2) := by decide +kernel
theorem dX8_pays_206 : decode cX8_pays 206 = .ok (.invokestatic 59, 3) := by decide +kernel
theorem dX8_pays_209 : decode cX8_pays 209 = .ok (.iaload, 1) := by decide +kernel
theorem dX8_pays_210 : decode cX8_pays 210 = .ok (.isub, 1) := by decide +kernel
theorem dX8_pays_211 : decode cX8_pays 211 = .ok (.iload 7, 2) := by decide +kernel
theorem dX8_pays_213 : decode cX8_pays 213 = .ok (.isub, 1) := by decide +kernel
theorem dX8_pays_214 : decode cX8_pays 214 = .ok (.istore 8, 2) := by decide +kernel
theorem dX8_pays_216 : decode cX8_pays 216 = .ok (.iload 4, 2) := by decide +kernel
theorem dX8_pays_218 : decode cX8_pays 218 = .ok (.ifCond .eq 42, 3) := by decide +kernel
theorem dX8_pays_221 : decode cX8_pays 221 = .ok (.iload 8, 2) := by decide +kernel
theorem dX8_pays_223 : decode cX8_pays 223 = .ok (.ifCond .le 37, 3) := by decide +kernel
theorem dX8_pays_226 : decode cX8_pays 226 = .ok (.aload_n 0, 1) := by decide +kernel
theorem dX8_pays_227 : decode cX8_pays 227 = .ok (.getfield 7, 3) := by decide +kernel
theorem dX8_pays_230 : decode cX8_pays 230 = .ok (.iconst 1, 1) := by decide +kernel
theorem dX8_pays_231 : decode cX8_pays 231 = .ok (.dup2, 1) := by decide +kernel
theorem dX8_pays_232 : decode cX8_pays 232 = .ok (.iaload, 1) := by decide +kernel
theorem dX8_pays_233 : decode cX8_pays 233 = .ok (.iload 8, 2) := by decide +kernel
theorem dX8_pays_235 : decode cX8_pays 235 = .ok (.isub, 1) := by decide +kernel
theorem dX8_pays_236 : decode cX8_pays 236 = .ok (.iastore, 1) := by decide +kernel
theorem dX8_pays_237 : decode cX8_pays 237 = .ok (.aload_n 0, 1) := by decide +kernel
theorem dX8_pays_238 : decode cX8_pays 238 = .ok (.getfield 7, 3) := by decide +kernel
theorem dX8_pays_241 : decode cX8_pays 241 = .ok (.iload_n 3, 1) := by decide +kernel
theorem dX8_pays_242 : decode cX8_pays 242 = .ok (.dup2, 1) := by decide +kernel
theorem dX8_pays_243 : decode cX8_pays 243 = .ok (.iaload, 1) := by decide +kernel
theorem dX8_pays_244 : decode cX8_pays 244 = .ok (.iload 8, 2) := by decide +kernel
theorem dX8_pays_246 : decode cX8_pays 246 = .ok (.iadd, 1) := by decide +kernel
theorem dX8_pays_247 : decode cX8_pays 247 = .ok (.iastore, 1) := by decide +kernel
theorem dX8_pays_248 : decode cX8_pays 248 = .ok (.aload_n 0, 1) := by decide +kernel
theorem dX8_pays_249 : decode cX8_pays 249 = .ok (.getfield 7, 3) := by decide +kernel
theorem dX8_pays_252 : decode cX8_pays 252 = .ok (.bipush 12, 2) := by decide +kernel
theorem dX8_pays_254 : decode cX8_pays 254 = .ok (.dup2, 1) := by decide +kernel
theorem dX8_pays_255 : decode cX8_pays 255 = .ok (.iaload, 1) := by decide +kernel
theorem dX8_pays_256 : decode cX8_pays 256 = .ok (.iload 8, 2) := by decide +kernel
theorem dX8_pays_258 : decode cX8_pays 258 = .ok (.iadd, 1) := by decide +kernel
theorem dX8_pays_259 : decode cX8_pays 259 = .ok (.iastore, 1) := by decide +kernel
theorem dX8_pays_260 : decode cX8_pays 260 = .ok (.iconst 0, 1) := by decide +kernel
theorem dX8_pays_261 : decode cX8_pays 261 = .ok (.ireturn, 1) := by decide +kernel
theorem dX8_pay_0 : decode cX8_pay 0 = .ok (.aload_n 0, 1) := by decide +kernel
theorem dX8_pay_1 : decode cX8_pay 1 = .ok (.iload_n 1, 1) := by decide +kernel
theorem dX8_pay_2 : decode cX8_pay 2 = .ok (.iload_n 2, 1) := by decide +kernel
theorem dX8_pay_3 : decode cX8_pay 3 = .ok (.invokevirtual 111, 3) := by decide +kernel
theorem dX8_pay_6 : decode cX8_pay 6 = .ok (.istore_n 3, 1) := by decide +kernel
theorem dX8_pay_7 : decode cX8_pay 7 = .ok (.iload_n 3, 1) := by decide +kernel
theorem dX8_pay_8 : decode cX8_pay 8 = .ok (.ifCond .ge 5, 3) := by decide +kernel
theorem dX8_pay_11 : decode cX8_pay 11 = .ok (.iload_n 3, 1) := by decide +kernel
theorem dX8_pay_12 : decode cX8_pay 12 = .ok (.ireturn, 1) := by decide +kernel
theorem dX8_pay_13 : decode cX8_pay 13 = .ok (.aload_n 0, 1) := by decide +kernel
theorem dX8_pay_14 : decode cX8_pay 14 = .ok (.invokevirtual 81, 3) := by decide +kernel
theorem dX8_pay_17 : decode cX8_pay 17 = .ok (.aload_n 0, 1) := by decide +kernel
theorem dX8_pay_18 : decode cX8_pay 18 = .ok (.iload_n 1, 1) := by decide +kernel
theorem dX8_pay_19 : decode cX8_pay 19 = .ok (.iload_n 2, 1) := by decide +kernel
theorem dX8_pay_20 : decode cX8_pay 20 = .ok (.invokevirtual 114, 3) := by decide +kernel
theorem dX8_pay_23 : decode cX8_pay 23 = .ok (.ireturn, 1) := by decide +kernel
theorem dX8_mayGiveUp_0 : decode cX8_mayGiveUp 0 = .ok (.aload_n 0, 1) := by decide +kernel
theorem dX8_mayGiveUp_1 : decode cX8_mayGiveUp 1 = .ok (.getfield 7, 3) := by decide +kernel
theorem dX8_mayGiveUp_4 : decode cX8_mayGiveUp 4 = .ok (.iload_n 1, 1) := by decide +kernel
theorem dX8_mayGiveUp_5 : decode cX8_mayGiveUp 5 = .ok (.iconst 4, 1) := by decide +kernel
theorem dX8_mayGiveUp_6 : decode cX8_mayGiveUp 6 = .ok (.invokestatic 59, 3) := by decide +kernel
theorem dX8_mayGiveUp_9 : decode cX8_mayGiveUp 9 = .ok (.iaload, 1) := by decide +kernel
theorem dX8_mayGiveUp_10 : decode cX8_mayGiveUp 10 = .ok (.iconst 2, 1) := by decide +kernel
theorem dX8_mayGiveUp_11 : decode cX8_mayGiveUp 11 = .ok (.if_icmp .ge 34, 3) := by decide +kernel
theorem dX8_mayGiveUp_14 : decode cX8_mayGiveUp 14 = .ok (.aload_n 0, 1) := by decide +kernel
theorem dX8_mayGiveUp_15 : decode cX8_mayGiveUp 15 = .ok (.getfield 7, 3) := by decide +kernel
theorem dX8_mayGiveUp_18 : decode cX8_mayGiveUp 18 = .ok (.iconst 0, 1) := by decide +kernel
theorem dX8_mayGiveUp_19 : decode cX8_mayGiveUp 19 = .ok (.iaload, 1) := by decide +kernel
theorem dX8_mayGiveUp_20 : decode cX8_mayGiveUp 20 = .ok (.aload_n 0, 1) := by decide +kernel
theorem dX8_mayGiveUp_21 : decode cX8_mayGiveUp 21 = .ok (.getfield 7, 3) := by decide +kernel
theorem dX8_mayGiveUp_24 : decode cX8_mayGiveUp 24 = .ok (.iload_n 1, 1) := by decide +kernel
theorem dX8_mayGiveUp_25 : decode cX8_mayGiveUp 25 = .ok (.iconst 3, 1) := by decide +kernel
theorem dX8_mayGiveUp_26 : decode cX8_mayGiveUp 26 = .ok (.invokestatic 59, 3) := by decide +kernel
theorem dX8_mayGiveUp_29 : decode cX8_mayGiveUp 29 = .ok (.iaload, 1) := by decide +kernel
theorem dX8_mayGiveUp_30 : decode cX8_mayGiveUp 30 = .ok (.isub, 1) := by decide +kernel
theorem dX8_mayGiveUp_31 : decode cX8_mayGiveUp 31 = .ok (.aload_n 0, 1) := by decide +kernel
theorem dX8_mayGiveUp_32 : decode cX8_mayGiveUp 32 = .ok (.getfield 7, 3) := by decide +kernel
theorem dX8_mayGiveUp_35 : decode cX8_mayGiveUp 35 = .ok (.bipush 7, 2) := by decide +kernel
theorem dX8_mayGiveUp_37 : decode cX8_mayGiveUp 37 = .ok (.iaload, 1) := by decide +kernel
theorem dX8_mayGiveUp_38 : decode cX8_mayGiveUp 38 = .ok (.if_icmp .lt 7, 3) := by decide +kernel
theorem dX8_mayGiveUp_41 : decode cX8_mayGiveUp 41 = .ok (.iconst 1, 1) := by decide +kernel
theorem dX8_mayGiveUp_42 : decode cX8_mayGiveUp 42 = .ok (.goto 4, 3) := by decide +kernel
theorem dX8_mayGiveUp_45 : decode cX8_mayGiveUp 45 = .ok (.iconst 0, 1) := by decide +kernel
theorem dX8_mayGiveUp_46 : decode cX8_mayGiveUp 46 = .ok (.ireturn, 1) := by decide +kernel
theorem dX8_share_0 : decode cX8_share 0 = .ok (.aload_n 0, 1) := by decide +kernel
theorem dX8_share_1 : decode cX8_share 1 = .ok (.getfield 7, 3) := by decide +kernel
theorem dX8_share_4 : decode cX8_share 4 = .ok (.bipush 8, 2) := by decide +kernel
theorem dX8_share_6 : decode cX8_share 6 = .ok (.iaload, 1) := by decide +kernel
theorem dX8_share_7 : decode cX8_share 7 = .ok (.istore_n 2, 1) := by decide +kernel
theorem dX8_share_8 : decode cX8_share 8 = .ok (.iconst 0, 1) := by decide +kernel
theorem dX8_share_9 : decode cX8_share 9 = .ok (.istore_n 3, 1) := by decide +kernel
theorem dX8_share_10 : decode cX8_share 10 = .ok (.iconst 0, 1) := by decide +kernel
theorem dX8_share_11 : decode cX8_share 11 = .ok (.istore 4, 2) := by decide +kernel
theorem dX8_share_13 : decode cX8_share 13 = .ok (.iload 4, 2) := by decide +kernel
theorem dX8_share_15 : decode cX8_share 15 = .ok (.iload_n 2, 1) := by decide +kernel
theorem dX8_share_16 : decode cX8_share 16 = .ok (.if_icmp .ge 23, 3) := by decide +kernel
theorem dX8_share_19 : decode cX8_share 19 = .ok (.iload_n 3, 1) := by decide +kernel
theorem dX8_share_20 : decode cX8_share 20 = .ok (.aload_n 0, 1) := by decide +kernel
theorem dX8_share_21 : decode cX8_share 21 = .ok (.getfield 7, 3) := by decide +kernel
theorem dX8_share_24 : decode cX8_share 24 = .ok (.iload 4, 2) := by decide +kernel
theorem dX8_share_26 : decode cX8_share 26 = .ok (.iconst 0, 1) := by decide +kernel
theorem dX8_share_27 : decode cX8_share 27 = .ok (.invokestatic 84, 3) := by decide +kernel
theorem dX8_share_30 : decode cX8_share 30 = .ok (.iaload, 1) := by decide +kernel
theorem dX8_share_31 : decode cX8_share 31 = .ok (.iadd, 1) := by decide +kernel
theorem dX8_share_32 : decode cX8_share 32 = .ok (.istore_n 3, 1) := by decide +kernel
theorem dX8_share_33 : decode cX8_share 33 = .ok (.iinc 4 1, 3) := by decide +kernel
theorem dX8_share_36 : decode cX8_share 36 = .ok (.goto (-23), 3) := by decide +kernel
theorem dX8_share_39 : decode cX8_share 39 = .ok (.iload_n 1, 1) := by decide +kernel
theorem dX8_share_40 : decode cX8_share 40 = .ok (.istore 4, 2) := by decide +kernel
theorem dX8_share_42 : decode cX8_share 42 = .ok (.iconst 0, 1) := by decide +kernel
theorem dX8_share_43 : decode cX8_share 43 = .ok (.istore 5, 2) := by decide +kernel
theorem dX8_share_45 : decode cX8_share 45 = .ok (.iload 5, 2) := by decide +kernel
theorem dX8_share_47 : decode cX8_share 47 = .ok (.iload_n 2, 1) := by decide +kernel
theorem dX8_share_48 : decode cX8_share 48 = .ok (.if_icmp .ge 51, 3) := by decide +kernel
theorem dX8_share_51 : decode cX8_share 51 = .ok (.iload_n 1, 1) := by decide +kernel
theorem dX8_share_52 : decode cX8_share 52 = .ok (.i2f, 1) := by decide +kernel
theorem dX8_share_53 : decode cX8_share 53 = .ok (.aload_n 0, 1) := by decide +kernel
theorem dX8_share_54 : decode cX8_share 54 = .ok (.getfield 7, 3) := by decide +kernel
theorem dX8_share_57 : decode cX8_share 57 = .ok (.iload 5, 2) := by decide +kernel
theorem dX8_share_59 : decode cX8_share 59 = .ok (.iconst 0, 1) := by decide +kernel
theorem dX8_share_60 : decode cX8_share 60 = .ok (.invokestatic 84, 3) := by decide +kernel
theorem dX8_share_63 : decode cX8_share 63 = .ok (.iaload, 1) := by decide +kernel
theorem dX8_share_64 : decode cX8_share 64 = .ok (.i2f, 1) := by decide +kernel
theorem dX8_share_65 : decode cX8_share 65 = .ok (.fmul, 1) := by decide +kernel
theorem dX8_share_66 : decode cX8_share 66 = .ok (.fstore 6, 2) := by decide +kernel
theorem dX8_share_68 : decode cX8_share 68 = .ok (.aload_n 0, 1) := by decide +kernel
theorem dX8_share_69 : decode cX8_share 69 = .ok (.getfield 32, 3) := by decide +kernel
theorem dX8_share_72 : decode cX8_share 72 = .ok (.iload 5, 2) := by decide +kernel
theorem dX8_share_74 : decode cX8_share 74 = .ok (.fload 6, 2) := by decide +kernel
theorem dX8_share_76 : decode cX8_share 76 = .ok (.iload_n 3, 1) := by decide +kernel
theorem dX8_share_77 : decode cX8_share 77 = .ok (.i2f, 1) := by decide +kernel
theorem dX8_share_78 : decode cX8_share 78 = .ok (.fdiv, 1) := by decide +kernel
theorem dX8_share_79 : decode cX8_share 79 = .ok (.f2i, 1) := by decide +kernel
theorem dX8_share_80 : decode cX8_share 80 = .ok (.iastore, 1) := by decide +kernel
theorem dX8_share_81 : decode cX8_share 81 = .ok (.iload 4, 2) := by decide +kernel
theorem dX8_share_83 : decode cX8_share 83 = .ok (.aload_n 0, 1) := by decide +kernel
theorem dX8_share_84 : decode cX8_share 84 = .ok (.getfield 32, 3) := by decide +kernel
theorem dX8_share_87 : decode cX8_share 87 = .ok (.iload 5, 2) := by decide +kernel
theorem dX8_share_89 : decode cX8_share 89 = .ok (.iaload, 1) := by decide +kernel
theorem dX8_share_90 : decode cX8_share 90 = .ok (.isub, 1) := by decide +kernel
theorem dX8_share_91 : decode cX8_share 91 = .ok (.istore 4, 2) := by decide +kernel
theorem dX8_share_93 : decode cX8_share 93 = .ok (.iinc 5 1, 3) := by decide +kernel
theorem dX8_share_96 : decode cX8_share 96 = .ok (.goto (-51), 3) := by decide +kernel
theorem dX8_share_99 : decode cX8_share 99 = .ok (.iconst 0, 1) := by decide +kernel
theorem dX8_share_100 : decode cX8_share 100 = .ok (.istore 5, 2) := by decide +kernel
theorem dX8_share_102 : decode cX8_share 102 = .ok (.iload 4, 2) := by decide +kernel
theorem dX8_share_104 : decode cX8_share 104 = .ok (.ifCond .eq 45, 3) := by decide +kernel
theorem dX8_share_107 : decode cX8_share 107 = .ok (.iload 4, 2) := by decide +kernel
theorem dX8_share_109 : decode cX8_share 109 = .ok (.ifCond .le 7, 3) := by decide +kernel
theorem dX8_share_112 : decode cX8_share 112 = .ok (.iconst 1, 1) := by decide +kernel
theorem dX8_share_113 : decode cX8_share 113 = .ok (.goto 4, 3) := by decide +kernel
theorem dX8_share_116 : decode cX8_share 116 = .ok (.iconst (-1), 1) := by decide +kernel
theorem dX8_share_117 : decode cX8_share 117 = .ok (.istore 6, 2) := by decide +kernel
theorem dX8_share_119 : decode cX8_share 119 = .ok (.aload_n 0, 1) := by decide +kernel
theorem dX8_share_120 : decode cX8_share 120 = .ok (.getfield 32, 3) := by decide +kernel
theorem dX8_share_123 : decode cX8_share 123 = .ok (.iload 5, 2) := by decide +kernel
theorem dX8_share_125 : decode cX8_share 125 = .ok (.dup2, 1) := by decide +kernel
theorem dX8_share_126 : decode cX8_share 126 = .ok (.iaload, 1) := by decide +kernel
theorem dX8_share_127 : decode cX8_share 127 = .ok (.iload 6, 2) := by decide +kernel
theorem dX8_share_129 : decode cX8_share 129 = .ok (.iadd, 1) := by decide +kernel
theorem dX8_share_130 : decode cX8_share 130 = .ok (.iastore, 1) := by decide +kernel
theorem dX8_share_131 : decode cX8_share 131 = .ok (.iload 4, 2) := by decide +kernel
theorem dX8_share_133 : decode cX8_share 133 = .ok (.iload 6, 2) := by decide +kernel
theorem dX8_share_135 : decode cX8_share 135 = .ok (.isub, 1) := by decide +kernel
theorem dX8_share_136 : decode cX8_share 136 = .ok (.istore 4, 2) := by decide +kernel
theorem dX8_share_138 : decode cX8_share 138 = .ok (.iload 5, 2) := by decide +kernel
theorem dX8_share_140 : decode cX8_share 140 = .ok (.iconst 1, 1) := by decide +kernel
theorem dX8_share_141 : decode cX8_share 141 = .ok (.iadd, 1) := by decide +kernel
theorem dX8_share_142 : decode cX8_share 142 = .ok (.iload_n 2, 1) := by decide +kernel
theorem dX8_share_143 : decode cX8_share 143 = .ok (.irem, 1) := by decide +kernel
theorem dX8_share_144 : decode cX8_share 144 = .ok (.istore 5, 2) := by decide +kernel
theorem dX8_share_146 : decode cX8_share 146 = .ok (.goto (-44), 3) := by decide +kernel
theorem dX8_share_149 : decode cX8_share 149 = .ok (.iconst 0, 1) := by decide +kernel
theorem dX8_share_150 : decode cX8_share 150 = .ok (.istore 5, 2) := by decide +kernel
theorem dX8_share_152 : decode cX8_share 152 = .ok (.iload 5, 2) := by decide +kernel
theorem dX8_share_154 : decode cX8_share 154 = .ok (.iload_n 2, 1) := by decide +kernel
theorem dX8_share_155 : decode cX8_share 155 = .ok (.if_icmp .ge 51, 3) := by decide +kernel
theorem dX8_share_158 : decode cX8_share 158 = .ok (.aload_n 0, 1) := by decide +kernel
theorem dX8_share_159 : decode cX8_share 159 = .ok (.getfield 7, 3) := by decide +kernel
theorem dX8_share_162 : decode cX8_share 162 = .ok (.iload 5, 2) := by decide +kernel
theorem dX8_share_164 : decode cX8_share 164 = .ok (.iconst 2, 1) := by decide +kernel
theorem dX8_share_165 : decode cX8_share 165 = .ok (.invokestatic 84, 3) := by decide +kernel
theorem dX8_share_168 : decode cX8_share 168 = .ok (.dup2, 1) := by decide +kernel
theorem dX8_share_169 : decode cX8_share 169 = .ok (.iaload, 1) := by decide +kernel
theorem dX8_share_170 : decode cX8_share 170 = .ok (.aload_n 0, 1) := by decide +kernel
theorem dX8_share_171 : decode cX8_share 171 = .ok (.getfield 32, 3) := by decide +kernel
theorem dX8_share_174 : decode cX8_share 174 = .ok (.iload 5, 2) := by decide +kernel
theorem dX8_share_176 : decode cX8_share 176 = .ok (.iaload, 1) := by decide +kernel
theorem dX8_share_177 : decode cX8_share 177 = .ok (.isub, 1) := by decide +kernel
theorem dX8_share_178 : decode cX8_share 178 = .ok (.iastore, 1) := by decide +kernel
theorem dX8_share_179 : decode cX8_share 179 = .ok (.aload_n 0, 1) := by decide +kernel
theorem dX8_share_180 : decode cX8_share 180 = .ok (.getfield 7, 3) := by decide +kernel
theorem dX8_share_183 : decode cX8_share 183 = .ok (.iload 5, 2) := by decide +kernel
theorem dX8_share_185 : decode cX8_share 185 = .ok (.iconst 3, 1) := by decide +kernel
theorem dX8_share_186 : decode cX8_share 186 = .ok (.invokestatic 84, 3) := by decide +kernel
theorem dX8_share_189 : decode cX8_share 189 = .ok (.dup2, 1) := by decide +kernel
theorem dX8_share_190 : decode cX8_share 190 = .ok (.iaload, 1) := by decide +kernel
theorem dX8_share_191 : decode cX8_share 191 = .ok (.aload_n 0, 1) := by decide +kernel
theorem dX8_share_192 : decode cX8_share 192 = .ok (.getfield 32, 3) := by decide +kernel
theorem dX8_share_195 : decode cX8_share 195 = .ok (.iload 5, 2) := by decide +kernel
theorem dX8_share_197 : decode cX8_share 197 = .ok (.iaload, 1) := by decide +kernel
theorem dX8_share_198 : decode cX8_share 198 = .ok (.iadd, 1) := by decide +kernel
theorem dX8_share_199 : decode cX8_share 199 = .ok (.iastore, 1) := by decide +kernel
theorem dX8_share_200 : decode cX8_share 200 = .ok (.iinc 5 1, 3) := by decide +kernel
theorem dX8_share_203 : decode cX8_share 203 = .ok (.goto (-51), 3) := by decide +kernel
theorem dX8_share_206 : decode cX8_share 206 = .ok (.aload_n 0, 1) := by decide +kernel
theorem dX8_share_207 : decode cX8_share 207 = .ok (.getfield 7, 3) := by decide +kernel
theorem dX8_share_210 : decode cX8_share 210 = .ok (.iconst 1, 1) := by decide +kernel
theorem dX8_share_211 : decode cX8_share 211 = .ok (.dup2, 1) := by decide +kernel
theorem dX8_share_212 : decode cX8_share 212 = .ok (.iaload, 1) := by decide +kernel
theorem dX8_share_213 : decode cX8_share 213 = .ok (.iload_n 1, 1) := by decide +kernel
theorem dX8_share_214 : decode cX8_share 214 = .ok (.iadd, 1) := by decide +kernel
theorem dX8_share_215 : decode cX8_share 215 = .ok (.iastore, 1) := by decide +kernel
theorem dX8_share_216 : decode cX8_share 216 = .ok (.aload_n 0, 1) := by decide +kernel
theorem dX8_share_217 : decode cX8_share 217 = .ok (.getfield 7, 3) := by decide +kernel
theorem dX8_share_220 : decode cX8_share 220 = .ok (.bipush 13, 2) := by decide +kernel
theorem dX8_share_222 : decode cX8_share 222 = .ok (.dup2, 1) := by decide +kernel
theorem dX8_share_223 : decode cX8_share 223 = .ok (.iaload, 1) := by decide +kernel
theorem dX8_share_224 : decode cX8_share 224 = .ok (.iload_n 1, 1) := by decide +kernel
theorem dX8_share_225 : decode cX8_share 225 = .ok (.iadd, 1) := by decide +kernel
theorem dX8_share_226 : decode cX8_share 226 = .ok (.iastore, 1) := by decide +kernel
theorem dX8_share_227 : decode cX8_share 227 = .ok (.return_, 1) := by decide +kernel
theorem dX8_giveUp_0 : decode cX8_giveUp 0 = .ok (.aload_n 0, 1) := by decide +kernel
theorem dX8_giveUp_1 : decode cX8_giveUp 1 = .ok (.iload_n 1, 1) := by decide +kernel
theorem dX8_giveUp_2 : decode cX8_giveUp 2 = .ok (.invokevirtual 105, 3) := by decide +kernel
theorem dX8_giveUp_5 : decode cX8_giveUp 5 = .ok (.ifCond .ne 5, 3) := by decide +kernel
theorem dX8_giveUp_8 : decode cX8_giveUp 8 = .ok (.iconst (-1), 1) := by decide +kernel
theorem dX8_giveUp_9 : decode cX8_giveUp 9 = .ok (.ireturn, 1) := by decide +kernel
theorem dX8_giveUp_10 : decode cX8_giveUp 10 = .ok (.aload_n 0, 1) := by decide +kernel
theorem dX8_giveUp_11 : decode cX8_giveUp 11 = .ok (.iload_n 1, 1) := by decide +kernel
theorem dX8_giveUp_12 : decode cX8_giveUp 12 = .ok (.invokevirtual 117, 3) := by decide +kernel
theorem dX8_giveUp_15 : decode cX8_giveUp 15 = .ok (.ifCond .ne 6, 3) := by decide +kernel
theorem dX8_giveUp_18 : decode cX8_giveUp 18 = .ok (.bipush (-4), 2) := by decide +kernel
theorem dX8_giveUp_20 : decode cX8_giveUp 20 = .ok (.ireturn, 1) := by decide +kernel
theorem dX8_giveUp_21 : decode cX8_giveUp 21 = .ok (.aload_n 0, 1) := by decide +kernel
theorem dX8_giveUp_22 : decode cX8_giveUp 22 = .ok (.invokevirtual 81, 3) := by decide +kernel
theorem dX8_giveUp_25 : decode cX8_giveUp 25 = .ok (.aload_n 0, 1) := by decide +kernel
theorem dX8_giveUp_26 : decode cX8_giveUp 26 = .ok (.getfield 7, 3) := by decide +kernel
theorem dX8_giveUp_29 : decode cX8_giveUp 29 = .ok (.iload_n 1, 1) := by decide +kernel
theorem dX8_giveUp_30 : decode cX8_giveUp 30 = .ok (.iconst 4, 1) := by decide +kernel
theorem dX8_giveUp_31 : decode cX8_giveUp 31 = .ok (.invokestatic 59, 3) := by decide +kernel
theorem dX8_giveUp_34 : decode cX8_giveUp 34 = .ok (.iaload, 1) := by decide +kernel
theorem dX8_giveUp_35 : decode cX8_giveUp 35 = .ok (.iconst 1, 1) := by decide +kernel
theorem dX8_giveUp_36 : decode cX8_giveUp 36 = .ok (.if_icmp .ne 28, 3) := by decide +kernel
theorem dX8_giveUp_39 : decode cX8_giveUp 39 = .ok (.aload_n 0, 1) := by decide +kernel
theorem dX8_giveUp_40 : decode cX8_giveUp 40 = .ok (.getfield 7, 3) := by decide +kernel
theorem dX8_giveUp_43 : decode cX8_giveUp 43 = .ok (.iload_n 1, 1) := by decide +kernel
theorem dX8_giveUp_44 : decode cX8_giveUp 44 = .ok (.bipush 6, 2) := by decide +kernel
theorem dX8_giveUp_46 : decode cX8_giveUp 46 = .ok (.invokestatic 59, 3) := by decide +kernel
theorem dX8_giveUp_49 : decode cX8_giveUp 49 = .ok (.iaload, 1) := by decide +kernel
theorem dX8_giveUp_50 : decode cX8_giveUp 50 = .ok (.aload_n 0, 1) := by decide +kernel
theorem dX8_giveUp_51 : decode cX8_giveUp 51 = .ok (.getfield 7, 3) := by decide +kernel
theorem dX8_giveUp_54 : decode cX8_giveUp 54 = .ok (.iload_n 1, 1) := by decide +kernel
theorem dX8_giveUp_55 : decode cX8_giveUp 55 = .ok (.iconst 5, 1) := by decide +kernel
theorem dX8_giveUp_56 : decode cX8_giveUp 56 = .ok (.invokestatic 59, 3) := by decide +kernel
theorem dX8_giveUp_59 : decode cX8_giveUp 59 = .ok (.iaload, 1) := by decide +kernel
theorem dX8_giveUp_60 : decode cX8_giveUp 60 = .ok (.isub, 1) := by decide +kernel
theorem dX8_giveUp_61 : decode cX8_giveUp 61 = .ok (.goto 4, 3) := by decide +kernel
theorem dX8_giveUp_64 : decode cX8_giveUp 64 = .ok (.iconst 0, 1) := by decide +kernel
theorem dX8_giveUp_65 : decode cX8_giveUp 65 = .ok (.istore_n 2, 1) := by decide +kernel
theorem dX8_giveUp_66 : decode cX8_giveUp 66 = .ok (.aload_n 0, 1) := by decide +kernel
theorem dX8_giveUp_67 : decode cX8_giveUp 67 = .ok (.getfield 7, 3) := by decide +kernel
theorem dX8_giveUp_70 : decode cX8_giveUp 70 = .ok (.iload_n 1, 1) := by decide +kernel
theorem dX8_giveUp_71 : decode cX8_giveUp 71 = .ok (.iconst 4, 1) := by decide +kernel
theorem dX8_giveUp_72 : decode cX8_giveUp 72 = .ok (.invokestatic 59, 3) := by decide +kernel
theorem dX8_giveUp_75 : decode cX8_giveUp 75 = .ok (.iconst 3, 1) := by decide +kernel
theorem dX8_giveUp_76 : decode cX8_giveUp 76 = .ok (.iastore, 1) := by decide +kernel
theorem dX8_giveUp_77 : decode cX8_giveUp 77 = .ok (.aload_n 0, 1) := by decide +kernel
theorem dX8_giveUp_78 : decode cX8_giveUp 78 = .ok (.getfield 7, 3) := by decide +kernel
theorem dX8_giveUp_81 : decode cX8_giveUp 81 = .ok (.aload_n 0, 1) := by decide +kernel
theorem dX8_giveUp_82 : decode cX8_giveUp 82 = .ok (.getfield 7, 3) := by decide +kernel
theorem dX8_giveUp_85 : decode cX8_giveUp 85 = .ok (.iload_n 1, 1) := by decide +kernel
theorem dX8_giveUp_86 : decode cX8_giveUp 86 = .ok (.iconst 1, 1) := by decide +kernel
theorem dX8_giveUp_87 : decode cX8_giveUp 87 = .ok (.invokestatic 59, 3) := by decide +kernel
theorem dX8_giveUp_90 : decode cX8_giveUp 90 = .ok (.iaload, 1) := by decide +kernel
theorem dX8_giveUp_91 : decode cX8_giveUp 91 = .ok (.iconst 1, 1) := by decide +kernel
theorem dX8_giveUp_92 : decode cX8_giveUp 92 = .ok (.invokestatic 55, 3) := by decide +kernel
theorem dX8_giveUp_95 : decode cX8_giveUp 95 = .ok (.dup2, 1) := by decide +kernel
theorem dX8_giveUp_96 : decode cX8_giveUp 96 = .ok (.iaload, 1) := by decide +kernel
theorem dX8_giveUp_97 : decode cX8_giveUp 97 = .ok (.iconst 1, 1) := by decide +kernel
theorem dX8_giveUp_98 : decode cX8_giveUp 98 = .ok (.iadd, 1) := by decide +kernel
theorem dX8_giveUp_99 : decode cX8_giveUp 99 = .ok (.iastore, 1) := by decide +kernel
theorem dX8_giveUp_100 : decode cX8_giveUp 100 = .ok (.iload_n 2, 1) := by decide +kernel
theorem dX8_giveUp_101 : decode cX8_giveUp 101 = .ok (.ifCond .gt 5, 3) := by decide +kernel
theorem dX8_giveUp_104 : decode cX8_giveUp 104 = .ok (.iconst 0, 1) := by decide +kernel
theorem dX8_giveUp_105 : decode cX8_giveUp 105 = .ok (.ireturn, 1) := by decide +kernel
theorem dX8_giveUp_106 : decode cX8_giveUp 106 = .ok (.aload_n 0, 1) := by decide +kernel
theorem dX8_giveUp_107 : decode cX8_giveUp 107 = .ok (.iload_n 2, 1) := by decide +kernel
theorem dX8_giveUp_108 : decode cX8_giveUp 108 = .ok (.invokevirtual 120, 3) := by decide +kernel
theorem dX8_giveUp_111 : decode cX8_giveUp 111 = .ok (.iload_n 2, 1) := by decide +kernel
theorem dX8_giveUp_112 : decode cX8_giveUp 112 = .ok (.ireturn, 1) := by decide +kernel
theorem dX8_sign_0 : decode cX8_sign 0 = .ok (.aload_n 0, 1) := by decide +kernel
theorem dX8_sign_1 : decode cX8_sign 1 = .ok (.getfield 124, 3) := by decide +kernel
theorem dX8_sign_4 : decode cX8_sign 4 = .ok (.aload_n 0, 1) := by decide +kernel
theorem dX8_sign_5 : decode cX8_sign 5 = .ok (.getfield 127, 3) := by decide +kernel
theorem dX8_sign_8 : decode cX8_sign 8 = .ok (.if_icmp .ge 15, 3) := by decide +kernel
theorem dX8_sign_11 : decode cX8_sign 11 = .ok (.aload_n 0, 1) := by decide +kernel
theorem dX8_sign_12 : decode cX8_sign 12 = .ok (.getfield 22, 3) := by decide +kernel
theorem dX8_sign_15 : decode cX8_sign 15 = .ok (.aload_n 0, 1) := by decide +kernel
theorem dX8_sign_16 : decode cX8_sign 16 = .ok (.getfield 124, 3) := by decide +kernel
theorem dX8_sign_19 : decode cX8_sign 19 = .ok (.iaload, 1) := by decide +kernel
theorem dX8_sign_20 : decode cX8_sign 20 = .ok (.goto 4, 3) := by decide +kernel
theorem dX8_sign_23 : decode cX8_sign 23 = .ok (.iconst 0, 1) := by decide +kernel
theorem dX8_sign_24 : decode cX8_sign 24 = .ok (.istore_n 3, 1) := by decide +kernel
theorem dX8_sign_25 : decode cX8_sign 25 = .ok (.aload_n 0, 1) := by decide +kernel
theorem dX8_sign_26 : decode cX8_sign 26 = .ok (.aload_n 0, 1) := by decide +kernel
theorem dX8_sign_27 : decode cX8_sign 27 = .ok (.getfield 130, 3) := by decide +kernel
theorem dX8_sign_30 : decode cX8_sign 30 = .ok (.ifCond .ne 12, 3) := by decide +kernel
theorem dX8_sign_33 : decode cX8_sign 33 = .ok (.iload_n 3, 1) := by decide +kernel
theorem dX8_sign_34 : decode cX8_sign 34 = .ok (.iload_n 1, 1) := by decide +kernel
theorem dX8_sign_35 : decode cX8_sign 35 = .ok (.iload_n 2, 1) := by decide +kernel
theorem dX8_sign_36 : decode cX8_sign 36 = .ok (.invokestatic 38, 3) := by decide +kernel
theorem dX8_sign_39 : decode cX8_sign 39 = .ok (.ifCond .ne 7, 3) := by decide +kernel
theorem dX8_sign_42 : decode cX8_sign 42 = .ok (.iconst 1, 1) := by decide +kernel
theorem dX8_sign_43 : decode cX8_sign 43 = .ok (.goto 4, 3) := by decide +kernel
theorem dX8_sign_46 : decode cX8_sign 46 = .ok (.iconst 0, 1) := by decide +kernel
theorem dX8_sign_47 : decode cX8_sign 47 = .ok (.putfield 130, 3) := by decide +kernel
theorem dX8_sign_50 : decode cX8_sign 50 = .ok (.aload_n 0, 1) := by decide +kernel
theorem dX8_sign_51 : decode cX8_sign 51 = .ok (.dup, 1) := by decide +kernel
theorem dX8_sign_52 : decode cX8_sign 52 = .ok (.getfield 124, 3) := by decide +kernel
theorem dX8_sign_55 : decode cX8_sign 55 = .ok (.aload_n 0, 1) := by decide +kernel
theorem dX8_sign_56 : decode cX8_sign 56 = .ok (.getfield 130, 3) := by decide +kernel
theorem dX8_sign_59 : decode cX8_sign 59 = .ok (.ifCond .eq 7, 3) := by decide +kernel
theorem dX8_sign_62 : decode cX8_sign 62 = .ok (.iconst 0, 1) := by decide +kernel
theorem dX8_sign_63 : decode cX8_sign 63 = .ok (.goto 4, 3) := by decide +kernel
theorem dX8_sign_66 : decode cX8_sign 66 = .ok (.iconst 1, 1) := by decide +kernel
theorem dX8_sign_67 : decode cX8_sign 67 = .ok (.iadd, 1) := by decide +kernel
theorem dX8_sign_68 : decode cX8_sign 68 = .ok (.putfield 124, 3) := by decide +kernel
theorem dX8_sign_71 : decode cX8_sign 71 = .ok (.iload_n 3, 1) := by decide +kernel
theorem dX8_sign_72 : decode cX8_sign 72 = .ok (.ireturn, 1) := by decide +kernel
theorem dX8_number_0 : decode cX8_number 0 = .ok (.aload_n 0, 1) := by decide +kernel
theorem dX8_number_1 : decode cX8_number 1 = .ok (.iload_n 1, 1) := by decide +kernel
theorem dX8_number_2 : decode cX8_number 2 = .ok (.bipush 57, 2) := by decide +kernel
theorem dX8_number_4 : decode cX8_number 4 = .ok (.invokevirtual 134, 3) := by decide +kernel
theorem dX8_number_7 : decode cX8_number 7 = .ok (.bipush 48, 2) := by decide +kernel
theorem dX8_number_9 : decode cX8_number 9 = .ok (.isub, 1) := by decide +kernel
theorem dX8_number_10 : decode cX8_number 10 = .ok (.istore_n 3, 1) := by decide +kernel
theorem dX8_number_11 : decode cX8_number 11 = .ok (.iconst 1, 1) := by decide +kernel
theorem dX8_number_12 : decode cX8_number 12 = .ok (.istore 4, 2) := by decide +kernel
theorem dX8_number_14 : decode cX8_number 14 = .ok (.aload_n 0, 1) := by decide +kernel
theorem dX8_number_15 : decode cX8_number 15 = .ok (.getfield 130, 3) := by decide +kernel
theorem dX8_number_18 : decode cX8_number 18 = .ok (.ifCond .ne 66, 3) := by decide +kernel
theorem dX8_number_21 : decode cX8_number 21 = .ok (.iload_n 3, 1) := by decide +kernel
theorem dX8_number_22 : decode cX8_number 22 = .ok (.ifCond .le 62, 3) := by decide +kernel
theorem dX8_number_25 : decode cX8_number 25 = .ok (.iload 4, 2) := by decide +kernel
theorem dX8_number_27 : decode cX8_number 27 = .ok (.iload_n 2, 1) := by decide +kernel
theorem dX8_number_28 : decode cX8_number 28 = .ok (.if_icmp .ge 56, 3) := by decide +kernel
theorem dX8_number_31 : decode cX8_number 31 = .ok (.aload_n 0, 1) := by decide +kernel
theorem dX8_number_32 : decode cX8_number 32 = .ok (.getfield 124, 3) := by decide +kernel
theorem dX8_number_35 : decode cX8_number 35 = .ok (.aload_n 0, 1) := by decide +kernel
theorem dX8_number_36 : decode cX8_number 36 = .ok (.getfield 127, 3) := by decide +kernel
theorem dX8_number_39 : decode cX8_number 39 = .ok (.if_icmp .ge 45, 3) := by decide +kernel
theorem dX8_number_42 : decode cX8_number 42 = .ok (.aload_n 0, 1) := by decide +kernel
theorem dX8_number_43 : decode cX8_number 43 = .ok (.getfield 22, 3) := by decide +kernel
theorem dX8_number_46 : decode cX8_number 46 = .ok (.aload_n 0, 1) := by decide +kernel
theorem dX8_number_47 : decode cX8_number 47 = .ok (.getfield 124, 3) := by decide +kernel
theorem dX8_number_50 : decode cX8_number 50 = .ok (.iaload, 1) := by decide +kernel
theorem dX8_number_51 : decode cX8_number 51 = .ok (.bipush 48, 2) := by decide +kernel
theorem dX8_number_53 : decode cX8_number 53 = .ok (.bipush 57, 2) := by decide +kernel
theorem dX8_number_55 : decode cX8_number 55 = .ok (.invokestatic 38, 3) := by decide +kernel
theorem dX8_number_58 : decode cX8_number 58 = .ok (.ifCond .eq 26, 3) := by decide +kernel
theorem dX8_number_61 : decode cX8_number 61 = .ok (.bipush 10, 2) := by decide +kernel
theorem dX8_number_63 : decode cX8_number 63 = .ok (.iload_n 3, 1) := by decide +kernel
theorem dX8_number_64 : decode cX8_number 64 = .ok (.imul, 1) := by decide +kernel
theorem dX8_number_65 : decode cX8_number 65 = .ok (.aload_n 0, 1) := by decide +kernel
theorem dX8_number_66 : decode cX8_number 66 = .ok (.bipush 48, 2) := by decide +kernel
theorem dX8_number_68 : decode cX8_number 68 = .ok (.bipush 57, 2) := by decide +kernel
theorem dX8_number_70 : decode cX8_number 70 = .ok (.invokevirtual 134, 3) := by decide +kernel
theorem dX8_number_73 : decode cX8_number 73 = .ok (.iadd, 1) := by decide +kernel
theorem dX8_number_74 : decode cX8_number 74 = .ok (.bipush 48, 2) := by decide +kernel
theorem dX8_number_76 : decode cX8_number 76 = .ok (.isub, 1) := by decide +kernel
theorem dX8_number_77 : decode cX8_number 77 = .ok (.istore_n 3, 1) := by decide +kernel
theorem dX8_number_78 : decode cX8_number 78 = .ok (.iinc 4 1, 3) := by decide +kernel
theorem dX8_number_81 : decode cX8_number 81 = .ok (.goto (-67), 3) := by decide +kernel
theorem dX8_number_84 : decode cX8_number 84 = .ok (.iload_n 3, 1) := by decide +kernel
theorem dX8_number_85 : decode cX8_number 85 = .ok (.ireturn, 1) := by decide +kernel
theorem dX8_go_0 : decode cX8_go 0 = .ok (.aload_n 0, 1) := by decide +kernel
theorem dX8_go_1 : decode cX8_go 1 = .ok (.iconst 0, 1) := by decide +kernel
theorem dX8_go_2 : decode cX8_go 2 = .ok (.putfield 124, 3) := by decide +kernel
theorem dX8_go_5 : decode cX8_go 5 = .ok (.aload_n 0, 1) := by decide +kernel
theorem dX8_go_6 : decode cX8_go 6 = .ok (.iconst 0, 1) := by decide +kernel
theorem dX8_go_7 : decode cX8_go 7 = .ok (.putfield 130, 3) := by decide +kernel
theorem dX8_go_10 : decode cX8_go 10 = .ok (.aload_n 0, 1) := by decide +kernel
theorem dX8_go_11 : decode cX8_go 11 = .ok (.iconst 0, 1) := by decide +kernel
theorem dX8_go_12 : decode cX8_go 12 = .ok (.putfield 137, 3) := by decide +kernel
theorem dX8_go_15 : decode cX8_go 15 = .ok (.aload_n 0, 1) := by decide +kernel
theorem dX8_go_16 : decode cX8_go 16 = .ok (.iconst 0, 1) := by decide +kernel
theorem dX8_go_17 : decode cX8_go 17 = .ok (.putfield 140, 3) := by decide +kernel
theorem dX8_go_20 : decode cX8_go 20 = .ok (.iconst 0, 1) := by decide +kernel
theorem dX8_go_21 : decode cX8_go 21 = .ok (.istore_n 2, 1) := by decide +kernel
theorem dX8_go_22 : decode cX8_go 22 = .ok (.iconst 1, 1) := by decide +kernel
theorem dX8_go_23 : decode cX8_go 23 = .ok (.istore_n 3, 1) := by decide +kernel
theorem dX8_go_24 : decode cX8_go 24 = .ok (.iload_n 3, 1) := by decide +kernel
theorem dX8_go_25 : decode cX8_go 25 = .ok (.ifCond .eq 164, 3) := by decide +kernel
theorem dX8_go_28 : decode cX8_go 28 = .ok (.aload_n 0, 1) := by decide +kernel
theorem dX8_go_29 : decode cX8_go 29 = .ok (.bipush 48, 2) := by decide +kernel
theorem dX8_go_31 : decode cX8_go 31 = .ok (.iconst 2, 1) := by decide +kernel
theorem dX8_go_32 : decode cX8_go 32 = .ok (.invokevirtual 143, 3) := by decide +kernel
theorem dX8_go_35 : decode cX8_go 35 = .ok (.istore 4, 2) := by decide +kernel
theorem dX8_go_37 : decode cX8_go 37 = .ok (.aload_n 0, 1) := by decide +kernel
theorem dX8_go_38 : decode cX8_go 38 = .ok (.bipush 61, 2) := by decide +kernel
theorem dX8_go_40 : decode cX8_go 40 = .ok (.bipush 61, 2) := by decide +kernel
theorem dX8_go_42 : decode cX8_go 42 = .ok (.invokevirtual 134, 3) := by decide +kernel
theorem dX8_go_45 : decode cX8_go 45 = .ok (.istore 5, 2) := by decide +kernel
theorem dX8_go_47 : decode cX8_go 47 = .ok (.aload_n 0, 1) := by decide +kernel
theorem dX8_go_48 : decode cX8_go 48 = .ok (.bipush 49, 2) := by decide +kernel
theorem dX8_go_50 : decode cX8_go 50 = .ok (.bipush 7, 2) := by decide +kernel
theorem dX8_go_52 : decode cX8_go 52 = .ok (.invokevirtual 143, 3) := by decide +kernel
theorem dX8_go_55 : decode cX8_go 55 = .ok (.istore 6, 2) := by decide +kernel
theorem dX8_go_57 : decode cX8_go 57 = .ok (.aload_n 0, 1) := by decide +kernel
theorem dX8_go_58 : decode cX8_go 58 = .ok (.iload_n 1, 1) := by decide +kernel
theorem dX8_go_59 : decode cX8_go 59 = .ok (.ifCond .eq 14, 3) := by decide +kernel
theorem dX8_go_62 : decode cX8_go 62 = .ok (.aload_n 0, 1) := by decide +kernel
theorem dX8_go_63 : decode cX8_go 63 = .ok (.iload 4, 2) := by decide +kernel
theorem dX8_go_65 : decode cX8_go 65 = .ok (.iload 6, 2) := by decide +kernel
theorem dX8_go_67 : decode cX8_go 67 = .ok (.invokevirtual 111, 3) := by decide +kernel
theorem dX8_go_70 : decode cX8_go 70 = .ok (.goto 4, 3) := by decide +kernel
theorem dX8_go_73 : decode cX8_go 73 = .ok (.iconst 0, 1) := by decide +kernel
theorem dX8_go_74 : decode cX8_go 74 = .ok (.putfield 137, 3) := by decide +kernel
theorem dX8_go_77 : decode cX8_go 77 = .ok (.iload_n 1, 1) := by decide +kernel
theorem dX8_go_78 : decode cX8_go 78 = .ok (.ifCond .eq 35, 3) := by decide +kernel
theorem dX8_go_81 : decode cX8_go 81 = .ok (.aload_n 0, 1) := by decide +kernel
theorem dX8_go_82 : decode cX8_go 82 = .ok (.getfield 137, 3) := by decide +kernel
theorem dX8_go_85 : decode cX8_go 85 = .ok (.ifCond .ne 28, 3) := by decide +kernel
theorem dX8_go_88 : decode cX8_go 88 = .ok (.aload_n 0, 1) := by decide +kernel
theorem dX8_go_89 : decode cX8_go 89 = .ok (.dup, 1) := by decide +kernel
theorem dX8_go_90 : decode cX8_go 90 = .ok (.getfield 140, 3) := by decide +kernel
theorem dX8_go_93 : decode cX8_go 93 = .ok (.aload_n 0, 1) := by decide +kernel
theorem dX8_go_94 : decode cX8_go 94 = .ok (.iload 4, 2) := by decide +kernel
theorem dX8_go_96 : decode cX8_go 96 = .ok (.iload 6, 2) := by decide +kernel
theorem dX8_go_98 : decode cX8_go 98 = .ok (.invokevirtual 114, 3) := by decide +kernel
theorem dX8_go_101 : decode cX8_go 101 = .ok (.ifCond .ne 7, 3) := by decide +kernel
theorem dX8_go_104 : decode cX8_go 104 = .ok (.iconst 1, 1) := by decide +kernel
theorem dX8_go_105 : decode cX8_go 105 = .ok (.goto 4, 3) := by decide +kernel
theorem dX8_go_108 : decode cX8_go 108 = .ok (.iconst 0, 1) := by decide +kernel
theorem dX8_go_109 : decode cX8_go 109 = .ok (.iadd, 1) := by decide +kernel
theorem dX8_go_110 : decode cX8_go 110 = .ok (.putfield 140, 3) := by decide +kernel
theorem dX8_go_113 : decode cX8_go 113 = .ok (.iload_n 2, 1) := by decide +kernel
theorem dX8_go_114 : decode cX8_go 114 = .ok (.aload_n 0, 1) := by decide +kernel
theorem dX8_go_115 : decode cX8_go 115 = .ok (.getfield 137, 3) := by decide +kernel
theorem dX8_go_118 : decode cX8_go 118 = .ok (.ifCond .ne 7, 3) := by decide +kernel
theorem dX8_go_121 : decode cX8_go 121 = .ok (.iconst 1, 1) := by decide +kernel
theorem dX8_go_122 : decode cX8_go 122 = .ok (.goto 4, 3) := by decide +kernel
theorem dX8_go_125 : decode cX8_go 125 = .ok (.iconst 0, 1) := by decide +kernel
theorem dX8_go_126 : decode cX8_go 126 = .ok (.iadd, 1) := by decide +kernel
theorem dX8_go_127 : decode cX8_go 127 = .ok (.istore_n 2, 1) := by decide +kernel
theorem dX8_go_128 : decode cX8_go 128 = .ok (.aload_n 0, 1) := by decide +kernel
theorem dX8_go_129 : decode cX8_go 129 = .ok (.getfield 130, 3) := by decide +kernel
theorem dX8_go_132 : decode cX8_go 132 = .ok (.ifCond .ne 25, 3) := by decide +kernel
theorem dX8_go_135 : decode cX8_go 135 = .ok (.aload_n 0, 1) := by decide +kernel
theorem dX8_go_136 : decode cX8_go 136 = .ok (.getfield 137, 3) := by decide +kernel
theorem dX8_go_139 : decode cX8_go 139 = .ok (.ifCond .ne 18, 3) := by decide +kernel
theorem dX8_go_142 : decode cX8_go 142 = .ok (.aload_n 0, 1) := by decide +kernel
theorem dX8_go_143 : decode cX8_go 143 = .ok (.getfield 124, 3) := by decide +kernel
theorem dX8_go_146 : decode cX8_go 146 = .ok (.aload_n 0, 1) := by decide +kernel
theorem dX8_go_147 : decode cX8_go 147 = .ok (.getfield 127, 3) := by decide +kernel
theorem dX8_go_150 : decode cX8_go 150 = .ok (.if_icmp .ge 7, 3) := by decide +kernel
theorem dX8_go_153 : decode cX8_go 153 = .ok (.iconst 1, 1) := by decide +kernel
theorem dX8_go_154 : decode cX8_go 154 = .ok (.goto 4, 3) := by decide +kernel
theorem dX8_go_157 : decode cX8_go 157 = .ok (.iconst 0, 1) := by decide +kernel
theorem dX8_go_158 : decode cX8_go 158 = .ok (.istore_n 3, 1) := by decide +kernel
theorem dX8_go_159 : decode cX8_go 159 = .ok (.iload_n 3, 1) := by decide +kernel
theorem dX8_go_160 : decode cX8_go 160 = .ok (.ifCond .eq 26, 3) := by decide +kernel
theorem dX8_go_163 : decode cX8_go 163 = .ok (.aload_n 0, 1) := by decide +kernel
theorem dX8_go_164 : decode cX8_go 164 = .ok (.bipush 44, 2) := by decide +kernel
theorem dX8_go_166 : decode cX8_go 166 = .ok (.bipush 44, 2) := by decide +kernel
theorem dX8_go_168 : decode cX8_go 168 = .ok (.invokevirtual 134, 3) := by decide +kernel
theorem dX8_go_171 : decode cX8_go 171 = .ok (.istore 7, 2) := by decide +kernel
theorem dX8_go_173 : decode cX8_go 173 = .ok (.aload_n 0, 1) := by decide +kernel
theorem dX8_go_174 : decode cX8_go 174 = .ok (.getfield 130, 3) := by decide +kernel
theorem dX8_go_177 : decode cX8_go 177 = .ok (.ifCond .ne 7, 3) := by decide +kernel
theorem dX8_go_180 : decode cX8_go 180 = .ok (.iconst 1, 1) := by decide +kernel
theorem dX8_go_181 : decode cX8_go 181 = .ok (.goto 4, 3) := by decide +kernel
theorem dX8_go_184 : decode cX8_go 184 = .ok (.iconst 0, 1) := by decide +kernel
theorem dX8_go_185 : decode cX8_go 185 = .ok (.istore_n 3, 1) := by decide +kernel
theorem dX8_go_186 : decode cX8_go 186 = .ok (.goto (-162), 3) := by decide +kernel
theorem dX8_go_189 : decode cX8_go 189 = .ok (.iload_n 2, 1) := by decide +kernel
theorem dX8_go_190 : decode cX8_go 190 = .ok (.ireturn, 1) := by decide +kernel
theorem dX8_swap_0 : decode cX8_swap 0 = .ok (.iconst 0, 1) := by decide +kernel
theorem dX8_swap_1 : decode cX8_swap 1 = .ok (.istore_n 1, 1) := by decide +kernel
theorem dX8_swap_2 : decode cX8_swap 2 = .ok (.iload_n 1, 1) := by decide +kernel
theorem dX8_swap_3 : decode cX8_swap 3 = .ok (.sipush 204, 3) := by decide +kernel
theorem dX8_swap_6 : decode cX8_swap 6 = .ok (.if_icmp .ge 35, 3) := by decide +kernel
theorem dX8_swap_9 : decode cX8_swap 9 = .ok (.aload_n 0, 1) := by decide +kernel
theorem dX8_swap_10 : decode cX8_swap 10 = .ok (.getfield 7, 3) := by decide +kernel
theorem dX8_swap_13 : decode cX8_swap 13 = .ok (.iload_n 1, 1) := by decide +kernel
theorem dX8_swap_14 : decode cX8_swap 14 = .ok (.iaload, 1) := by decide +kernel
theorem dX8_swap_15 : decode cX8_swap 15 = .ok (.istore_n 2, 1) := by decide +kernel
theorem dX8_swap_16 : decode cX8_swap 16 = .ok (.aload_n 0, 1) := by decide +kernel
theorem dX8_swap_17 : decode cX8_swap 17 = .ok (.getfield 7, 3) := by decide +kernel
theorem dX8_swap_20 : decode cX8_swap 20 = .ok (.iload_n 1, 1) := by decide +kernel
theorem dX8_swap_21 : decode cX8_swap 21 = .ok (.aload_n 0, 1) := by decide +kernel
theorem dX8_swap_22 : decode cX8_swap 22 = .ok (.getfield 13, 3) := by decide +kernel
theorem dX8_swap_25 : decode cX8_swap 25 = .ok (.iload_n 1, 1) := by decide +kernel
theorem dX8_swap_26 : decode cX8_swap 26 = .ok (.iaload, 1) := by decide +kernel
theorem dX8_swap_27 : decode cX8_swap 27 = .ok (.iastore, 1) := by decide +kernel
theorem dX8_swap_28 : decode cX8_swap 28 = .ok (.aload_n 0, 1) := by decide +kernel
theorem dX8_swap_29 : decode cX8_swap 29 = .ok (.getfield 13, 3) := by decide +kernel
theorem dX8_swap_32 : decode cX8_swap 32 = .ok (.iload_n 1, 1) := by decide +kernel
theorem dX8_swap_33 : decode cX8_swap 33 = .ok (.iload_n 2, 1) := by decide +kernel
theorem dX8_swap_34 : decode cX8_swap 34 = .ok (.iastore, 1) := by decide +kernel
theorem dX8_swap_35 : decode cX8_swap 35 = .ok (.iinc 1 1, 3) := by decide +kernel
theorem dX8_swap_38 : decode cX8_swap 38 = .ok (.goto (-36), 3) := by decide +kernel
theorem dX8_swap_41 : decode cX8_swap 41 = .ok (.return_, 1) := by decide +kernel
theorem dX8_readPayments_0 : decode cX8_readPayments 0 = .ok (.aload_n 0, 1) := by decide +kernel
theorem dX8_readPayments_1 : decode cX8_readPayments 1 = .ok (.iconst 0, 1) := by decide +kernel
theorem dX8_readPayments_2 : decode cX8_readPayments 2 = .ok (.invokevirtual 146, 3) := by decide +kernel
theorem dX8_readPayments_5 : decode cX8_readPayments 5 = .ok (.istore_n 1, 1) := by decide +kernel
theorem dX8_readPayments_6 : decode cX8_readPayments 6 = .ok (.aload_n 0, 1) := by decide +kernel
theorem dX8_readPayments_7 : decode cX8_readPayments 7 = .ok (.getfield 130, 3) := by decide +kernel
theorem dX8_readPayments_10 : decode cX8_readPayments 10 = .ok (.ifCond .eq 11, 3) := by decide +kernel
theorem dX8_readPayments_13 : decode cX8_readPayments 13 = .ok (.bipush (-100), 2) := by decide +kernel
theorem dX8_readPayments_15 : decode cX8_readPayments 15 = .ok (.aload_n 0, 1) := by decide +kernel
theorem dX8_readPayments_16 : decode cX8_readPayments 16 = .ok (.getfield 124, 3) := by decide +kernel
theorem dX8_readPayments_19 : decode cX8_readPayments 19 = .ok (.isub, 1) := by decide +kernel
theorem dX8_readPayments_20 : decode cX8_readPayments 20 = .ok (.ireturn, 1) := by decide +kernel
theorem dX8_readPayments_21 : decode cX8_readPayments 21 = .ok (.iconst 0, 1) := by decide +kernel
theorem dX8_readPayments_22 : decode cX8_readPayments 22 = .ok (.istore_n 2, 1) := by decide +kernel
theorem dX8_readPayments_23 : decode cX8_readPayments 23 = .ok (.iload_n 2, 1) := by decide +kernel
theorem dX8_readPayments_24 : decode cX8_readPayments 24 = .ok (.sipush 204, 3) := by decide +kernel
theorem dX8_readPayments_27 : decode cX8_readPayments 27 = .ok (.if_icmp .ge 21, 3) := by decide +kernel
theorem dX8_readPayments_30 : decode cX8_readPayments 30 = .ok (.aload_n 0, 1) := by decide +kernel
theorem dX8_readPayments_31 : decode cX8_readPayments 31 = .ok (.getfield 13, 3) := by decide +kernel
theorem dX8_readPayments_34 : decode cX8_readPayments 34 = .ok (.iload_n 2, 1) := by decide +kernel
theorem dX8_readPayments_35 : decode cX8_readPayments 35 = .ok (.aload_n 0, 1) := by decide +kernel
theorem dX8_readPayments_36 : decode cX8_readPayments 36 = .ok (.getfield 7, 3) := by decide +kernel
theorem dX8_readPayments_39 : decode cX8_readPayments 39 = .ok (.iload_n 2, 1) := by decide +kernel
theorem dX8_readPayments_40 : decode cX8_readPayments 40 = .ok (.iaload, 1) := by decide +kernel
theorem dX8_readPayments_41 : decode cX8_readPayments 41 = .ok (.iastore, 1) := by decide +kernel
theorem dX8_readPayments_42 : decode cX8_readPayments 42 = .ok (.iinc 2 1, 3) := by decide +kernel
theorem dX8_readPayments_45 : decode cX8_readPayments 45 = .ok (.goto (-22), 3) := by decide +kernel
theorem dX8_readPayments_48 : decode cX8_readPayments 48 = .ok (.aload_n 0, 1) := by decide +kernel
theorem dX8_readPayments_49 : decode cX8_readPayments 49 = .ok (.iconst 1, 1) := by decide +kernel
theorem dX8_readPayments_50 : decode cX8_readPayments 50 = .ok (.invokevirtual 146, 3) := by decide +kernel
theorem dX8_readPayments_53 : decode cX8_readPayments 53 = .ok (.istore_n 1, 1) := by decide +kernel
theorem dX8_readPayments_54 : decode cX8_readPayments 54 = .ok (.aload_n 0, 1) := by decide +kernel
theorem dX8_readPayments_55 : decode cX8_readPayments 55 = .ok (.invokevirtual 150, 3) := by decide +kernel
theorem dX8_readPayments_58 : decode cX8_readPayments 58 = .ok (.aload_n 0, 1) := by decide +kernel
theorem dX8_readPayments_59 : decode cX8_readPayments 59 = .ok (.getfield 137, 3) := by decide +kernel
theorem dX8_readPayments_62 : decode cX8_readPayments 62 = .ok (.ifCond .ge 19, 3) := by decide +kernel
theorem dX8_readPayments_65 : decode cX8_readPayments 65 = .ok (.aload_n 0, 1) := by decide +kernel
theorem dX8_readPayments_66 : decode cX8_readPayments 66 = .ok (.iload_n 1, 1) := by decide +kernel
theorem dX8_readPayments_67 : decode cX8_readPayments 67 = .ok (.putfield 25, 3) := by decide +kernel
theorem dX8_readPayments_70 : decode cX8_readPayments 70 = .ok (.aload_n 0, 1) := by decide +kernel
theorem dX8_readPayments_71 : decode cX8_readPayments 71 = .ok (.aload_n 0, 1) := by decide +kernel
theorem dX8_readPayments_72 : decode cX8_readPayments 72 = .ok (.getfield 137, 3) := by decide +kernel
theorem dX8_readPayments_75 : decode cX8_readPayments 75 = .ok (.putfield 29, 3) := by decide +kernel
theorem dX8_readPayments_78 : decode cX8_readPayments 78 = .ok (.bipush (-4), 2) := by decide +kernel
theorem dX8_readPayments_80 : decode cX8_readPayments 80 = .ok (.ireturn, 1) := by decide +kernel
theorem dX8_readPayments_81 : decode cX8_readPayments 81 = .ok (.aload_n 0, 1) := by decide +kernel
theorem dX8_readPayments_82 : decode cX8_readPayments 82 = .ok (.invokevirtual 81, 3) := by decide +kernel
theorem dX8_readPayments_85 : decode cX8_readPayments 85 = .ok (.aload_n 0, 1) := by decide +kernel
theorem dX8_readPayments_86 : decode cX8_readPayments 86 = .ok (.invokevirtual 150, 3) := by decide +kernel
theorem dX8_readPayments_89 : decode cX8_readPayments 89 = .ok (.aload_n 0, 1) := by decide +kernel
theorem dX8_readPayments_90 : decode cX8_readPayments 90 = .ok (.getfield 140, 3) := by decide +kernel
theorem dX8_readPayments_93 : decode cX8_readPayments 93 = .ok (.ireturn, 1) := by decide +kernel
theorem dX8_refusal_0 : decode cX8_refusal 0 = .ok (.iload_n 1, 1) := by decide +kernel
theorem dX8_refusal_1 : decode cX8_refusal 1 = .ok (.iconst 0, 1) := by decide +kernel
theorem dX8_refusal_2 : decode cX8_refusal 2 = .ok (.iconst 1, 1) := by decide +kernel
theorem dX8_refusal_3 : decode cX8_refusal 3 = .ok (.invokestatic 38, 3) := by decide +kernel
theorem dX8_refusal_6 : decode cX8_refusal 6 = .ok (.ifCond .ne 8, 3) := by decide +kernel
theorem dX8_refusal_9 : decode cX8_refusal 9 = .ok (.bipush (-2), 2) := by decide +kernel
theorem dX8_refusal_11 : decode cX8_refusal 11 = .ok (.goto 18, 3) := by decide +kernel
theorem dX8_refusal_14 : decode cX8_refusal 14 = .ok (.iload_n 1, 1) := by decide +kernel
theorem dX8_refusal_15 : decode cX8_refusal 15 = .ok (.ifCond .ne 10, 3) := by decide +kernel
theorem dX8_refusal_18 : decode cX8_refusal 18 = .ok (.aload_n 0, 1) := by decide +kernel
theorem dX8_refusal_19 : decode cX8_refusal 19 = .ok (.getfield 25, 3) := by decide +kernel
theorem dX8_refusal_22 : decode cX8_refusal 22 = .ok (.goto 7, 3) := by decide +kernel
theorem dX8_refusal_25 : decode cX8_refusal 25 = .ok (.aload_n 0, 1) := by decide +kernel
theorem dX8_refusal_26 : decode cX8_refusal 26 = .ok (.getfield 29, 3) := by decide +kernel
theorem dX8_refusal_29 : decode cX8_refusal 29 = .ok (.ireturn, 1) := by decide +kernel
theorem dX8_pass_0 : decode cX8_pass 0 = .ok (.iload_n 1, 1) := by decide +kernel
theorem dX8_pass_1 : decode cX8_pass 1 = .ok (.iconst 1, 1) := by decide +kernel
theorem dX8_pass_2 : decode cX8_pass 2 = .ok (.sipush 365, 3) := by decide +kernel
theorem dX8_pass_5 : decode cX8_pass 5 = .ok (.invokestatic 38, 3) := by decide +kernel
theorem dX8_pass_8 : decode cX8_pass 8 = .ok (.ifCond .ne 6, 3) := by decide +kernel
theorem dX8_pass_11 : decode cX8_pass 11 = .ok (.bipush (-2), 2) := by decide +kernel
theorem dX8_pass_13 : decode cX8_pass 13 = .ok (.ireturn, 1) := by decide +kernel
theorem dX8_pass_14 : decode cX8_pass 14 = .ok (.aload_n 0, 1) := by decide +kernel
theorem dX8_pass_15 : decode cX8_pass 15 = .ok (.getfield 7, 3) := by decide +kernel
theorem dX8_pass_18 : decode cX8_pass 18 = .ok (.iconst 0, 1) := by decide +kernel
theorem dX8_pass_19 : decode cX8_pass 19 = .ok (.iaload, 1) := by decide +kernel
theorem dX8_pass_20 : decode cX8_pass 20 = .ok (.iload_n 1, 1) := by decide +kernel
theorem dX8_pass_21 : decode cX8_pass 21 = .ok (.iadd, 1) := by decide +kernel
theorem dX8_pass_22 : decode cX8_pass 22 = .ok (.ldc 153, 2) := by decide +kernel
theorem dX8_pass_24 : decode cX8_pass 24 = .ok (.if_icmp .le 6, 3) := by decide +kernel
theorem dX8_pass_27 : decode cX8_pass 27 = .ok (.bipush (-4), 2) := by decide +kernel
theorem dX8_pass_29 : decode cX8_pass 29 = .ok (.ireturn, 1) := by decide +kernel
theorem dX8_pass_30 : decode cX8_pass 30 = .ok (.aload_n 0, 1) := by decide +kernel
theorem dX8_pass_31 : decode cX8_pass 31 = .ok (.invokevirtual 81, 3) := by decide +kernel
theorem dX8_pass_34 : decode cX8_pass 34 = .ok (.aload_n 0, 1) := by decide +kernel
theorem dX8_pass_35 : decode cX8_pass 35 = .ok (.getfield 7, 3) := by decide +kernel
theorem dX8_pass_38 : decode cX8_pass 38 = .ok (.iconst 0, 1) := by decide +kernel
theorem dX8_pass_39 : decode cX8_pass 39 = .ok (.dup2, 1) := by decide +kernel
theorem dX8_pass_40 : decode cX8_pass 40 = .ok (.iaload, 1) := by decide +kernel
theorem dX8_pass_41 : decode cX8_pass 41 = .ok (.iload_n 1, 1) := by decide +kernel
theorem dX8_pass_42 : decode cX8_pass 42 = .ok (.iadd, 1) := by decide +kernel
theorem dX8_pass_43 : decode cX8_pass 43 = .ok (.iastore, 1) := by decide +kernel
theorem dX8_pass_44 : decode cX8_pass 44 = .ok (.aload_n 0, 1) := by decide +kernel
theorem dX8_pass_45 : decode cX8_pass 45 = .ok (.getfield 7, 3) := by decide +kernel
theorem dX8_pass_48 : decode cX8_pass 48 = .ok (.iconst 0, 1) := by decide +kernel
theorem dX8_pass_49 : decode cX8_pass 49 = .ok (.iaload, 1) := by decide +kernel
theorem dX8_pass_50 : decode cX8_pass 50 = .ok (.ireturn, 1) := by decide +kernel
theorem dX8_type_0 : decode cX8_type 0 = .ok (.aload_n 0, 1) := by decide +kernel
theorem dX8_type_1 : decode cX8_type 1 = .ok (.getfield 127, 3) := by decide +kernel
theorem dX8_type_4 : decode cX8_type 4 = .ok (.bipush 60, 2) := by decide +kernel
theorem dX8_type_6 : decode cX8_type 6 = .ok (.if_icmp .ne 6, 3) := by decide +kernel
theorem dX8_type_9 : decode cX8_type 9 = .ok (.bipush (-3), 2) := by decide +kernel
theorem dX8_type_11 : decode cX8_type 11 = .ok (.ireturn, 1) := by decide +kernel
theorem dX8_type_12 : decode cX8_type 12 = .ok (.aload_n 0, 1) := by decide +kernel
theorem dX8_type_13 : decode cX8_type 13 = .ok (.getfield 22, 3) := by decide +kernel
theorem dX8_type_16 : decode cX8_type 16 = .ok (.aload_n 0, 1) := by decide +kernel
theorem dX8_type_17 : decode cX8_type 17 = .ok (.getfield 127, 3) := by decide +kernel
theorem dX8_type_20 : decode cX8_type 20 = .ok (.iload_n 1, 1) := by decide +kernel
theorem dX8_type_21 : decode cX8_type 21 = .ok (.iastore, 1) := by decide +kernel
theorem dX8_type_22 : decode cX8_type 22 = .ok (.aload_n 0, 1) := by decide +kernel
theorem dX8_type_23 : decode cX8_type 23 = .ok (.dup, 1) := by decide +kernel
theorem dX8_type_24 : decode cX8_type 24 = .ok (.getfield 127, 3) := by decide +kernel
theorem dX8_type_27 : decode cX8_type 27 = .ok (.iconst 1, 1) := by decide +kernel
theorem dX8_type_28 : decode cX8_type 28 = .ok (.iadd, 1) := by decide +kernel
theorem dX8_type_29 : decode cX8_type 29 = .ok (.putfield 127, 3) := by decide +kernel
theorem dX8_type_32 : decode cX8_type 32 = .ok (.aload_n 0, 1) := by decide +kernel
theorem dX8_type_33 : decode cX8_type 33 = .ok (.getfield 127, 3) := by decide +kernel
theorem dX8_type_36 : decode cX8_type 36 = .ok (.ireturn, 1) := by decide +kernel
theorem dX8_clearText_0 : decode cX8_clearText 0 = .ok (.aload_n 0, 1) := by decide +kernel
theorem dX8_clearText_1 : decode cX8_clearText 1 = .ok (.getfield 127, 3) := by decide +kernel
theorem dX8_clearText_4 : decode cX8_clearText 4 = .ok (.istore_n 1, 1) := by decide +kernel
theorem dX8_clearText_5 : decode cX8_clearText 5 = .ok (.aload_n 0, 1) := by decide +kernel
theorem dX8_clearText_6 : decode cX8_clearText 6 = .ok (.iconst 0, 1) := by decide +kernel
theorem dX8_clearText_7 : decode cX8_clearText 7 = .ok (.putfield 127, 3) := by decide +kernel
theorem dX8_clearText_10 : decode cX8_clearText 10 = .ok (.iload_n 1, 1) := by decide +kernel
theorem dX8_clearText_11 : decode cX8_clearText 11 = .ok (.ireturn, 1) := by decide +kernel
theorem dX8_undo_0 : decode cX8_undo 0 = .ok (.aload_n 0, 1) := by decide +kernel
theorem dX8_undo_1 : decode cX8_undo 1 = .ok (.getfield 42, 3) := by decide +kernel
theorem dX8_undo_4 : decode cX8_undo 4 = .ok (.ifCond .ne 6, 3) := by decide +kernel
theorem dX8_undo_7 : decode cX8_undo 7 = .ok (.bipush (-5), 2) := by decide +kernel
theorem dX8_undo_9 : decode cX8_undo 9 = .ok (.ireturn, 1) := by decide +kernel
theorem dX8_undo_10 : decode cX8_undo 10 = .ok (.aload_n 0, 1) := by decide +kernel
theorem dX8_undo_11 : decode cX8_undo 11 = .ok (.dup, 1) := by decide +kernel
theorem dX8_undo_12 : decode cX8_undo 12 = .ok (.getfield 42, 3) := by decide +kernel
theorem dX8_undo_15 : decode cX8_undo 15 = .ok (.iconst 1, 1) := by decide +kernel
theorem dX8_undo_16 : decode cX8_undo 16 = .ok (.isub, 1) := by decide +kernel
theorem dX8_undo_17 : decode cX8_undo 17 = .ok (.putfield 42, 3) := by decide +kernel
theorem dX8_undo_20 : decode cX8_undo 20 = .ok (.iconst 0, 1) := by decide +kernel
theorem dX8_undo_21 : decode cX8_undo 21 = .ok (.istore_n 1, 1) := by decide +kernel
theorem dX8_undo_22 : decode cX8_undo 22 = .ok (.iload_n 1, 1) := by decide +kernel
theorem dX8_undo_23 : decode cX8_undo 23 = .ok (.sipush 204, 3) := by decide +kernel
theorem dX8_undo_26 : decode cX8_undo 26 = .ok (.if_icmp .ge 30, 3) := by decide +kernel
theorem dX8_undo_29 : decode cX8_undo 29 = .ok (.aload_n 0, 1) := by decide +kernel
theorem dX8_undo_30 : decode cX8_undo 30 = .ok (.getfield 7, 3) := by decide +kernel
theorem dX8_undo_33 : decode cX8_undo 33 = .ok (.iload_n 1, 1) := by decide +kernel
theorem dX8_undo_34 : decode cX8_undo 34 = .ok (.aload_n 0, 1) := by decide +kernel
theorem dX8_undo_35 : decode cX8_undo 35 = .ok (.getfield 16, 3) := by decide +kernel
theorem dX8_undo_38 : decode cX8_undo 38 = .ok (.sipush 204, 3) := by decide +kernel
theorem dX8_undo_41 : decode cX8_undo 41 = .ok (.aload_n 0, 1) := by decide +kernel
theorem dX8_undo_42 : decode cX8_undo 42 = .ok (.getfield 42, 3) := by decide +kernel
theorem dX8_undo_45 : decode cX8_undo 45 = .ok (.imul, 1) := by decide +kernel
theorem dX8_undo_46 : decode cX8_undo 46 = .ok (.iload_n 1, 1) := by decide +kernel
theorem dX8_undo_47 : decode cX8_undo 47 = .ok (.iadd, 1) := by decide +kernel
theorem dX8_undo_48 : decode cX8_undo 48 = .ok (.iaload, 1) := by decide +kernel
theorem dX8_undo_49 : decode cX8_undo 49 = .ok (.iastore, 1) := by decide +kernel
theorem dX8_undo_50 : decode cX8_undo 50 = .ok (.iinc 1 1, 3) := by decide +kernel
theorem dX8_undo_53 : decode cX8_undo 53 = .ok (.goto (-31), 3) := by decide +kernel
theorem dX8_undo_56 : decode cX8_undo 56 = .ok (.aload_n 0, 1) := by decide +kernel
theorem dX8_undo_57 : decode cX8_undo 57 = .ok (.getfield 42, 3) := by decide +kernel
theorem dX8_undo_60 : decode cX8_undo 60 = .ok (.ireturn, 1) := by decide +kernel
theorem dX8_keep_0 : decode cX8_keep 0 = .ok (.iconst 0, 1) := by decide +kernel
theorem dX8_keep_1 : decode cX8_keep 1 = .ok (.istore_n 1, 1) := by decide +kernel
theorem dX8_keep_2 : decode cX8_keep 2 = .ok (.iload_n 1, 1) := by decide +kernel
theorem dX8_keep_3 : decode cX8_keep 3 = .ok (.sipush 204, 3) := by decide +kernel
theorem dX8_keep_6 : decode cX8_keep 6 = .ok (.if_icmp .ge 21, 3) := by decide +kernel
theorem dX8_keep_9 : decode cX8_keep 9 = .ok (.aload_n 0, 1) := by decide +kernel
theorem dX8_keep_10 : decode cX8_keep 10 = .ok (.getfield 19, 3) := by decide +kernel
theorem dX8_keep_13 : decode cX8_keep 13 = .ok (.iload_n 1, 1) := by decide +kernel
theorem dX8_keep_14 : decode cX8_keep 14 = .ok (.aload_n 0, 1) := by decide +kernel
theorem dX8_keep_15 : decode cX8_keep 15 = .ok (.getfield 7, 3) := by decide +kernel
theorem dX8_keep_18 : decode cX8_keep 18 = .ok (.iload_n 1, 1) := by decide +kernel
theorem dX8_keep_19 : decode cX8_keep 19 = .ok (.iaload, 1) := by decide +kernel
theorem dX8_keep_20 : decode cX8_keep 20 = .ok (.iastore, 1) := by decide +kernel
theorem dX8_keep_21 : decode cX8_keep 21 = .ok (.iinc 1 1, 3) := by decide +kernel
theorem dX8_keep_24 : decode cX8_keep 24 = .ok (.goto (-22), 3) := by decide +kernel
theorem dX8_keep_27 : decode cX8_keep 27 = .ok (.aload_n 0, 1) := by decide +kernel
theorem dX8_keep_28 : decode cX8_keep 28 = .ok (.iconst 1, 1) := by decide +kernel
theorem dX8_keep_29 : decode cX8_keep 29 = .ok (.putfield 154, 3) := by decide +kernel
theorem dX8_keep_32 : decode cX8_keep 32 = .ok (.aload_n 0, 1) := by decide +kernel
theorem dX8_keep_33 : decode cX8_keep 33 = .ok (.getfield 7, 3) := by decide +kernel
theorem dX8_keep_36 : decode cX8_keep 36 = .ok (.iconst 0, 1) := by decide +kernel
theorem dX8_keep_37 : decode cX8_keep 37 = .ok (.iaload, 1) := by decide +kernel
theorem dX8_keep_38 : decode cX8_keep 38 = .ok (.ireturn, 1) := by decide +kernel
theorem dX8_restore_0 : decode cX8_restore 0 = .ok (.aload_n 0, 1) := by decide +kernel
theorem dX8_restore_1 : decode cX8_restore 1 = .ok (.getfield 154, 3) := by decide +kernel
theorem dX8_restore_4 : decode cX8_restore 4 = .ok (.ifCond .ne 6, 3) := by decide +kernel
theorem dX8_restore_7 : decode cX8_restore 7 = .ok (.bipush (-5), 2) := by decide +kernel
theorem dX8_restore_9 : decode cX8_restore 9 = .ok (.ireturn, 1) := by decide +kernel
theorem dX8_restore_10 : decode cX8_restore 10 = .ok (.aload_n 0, 1) := by decide +kernel
theorem dX8_restore_11 : decode cX8_restore 11 = .ok (.invokevirtual 81, 3) := by decide +kernel
theorem dX8_restore_14 : decode cX8_restore 14 = .ok (.iconst 0, 1) := by decide +kernel
theorem dX8_restore_15 : decode cX8_restore 15 = .ok (.istore_n 1, 1) := by decide +kernel
theorem dX8_restore_16 : decode cX8_restore 16 = .ok (.iload_n 1, 1) := by decide +kernel
theorem dX8_restore_17 : decode cX8_restore 17 = .ok (.sipush 204, 3) := by decide +kernel
theorem dX8_restore_20 : decode cX8_restore 20 = .ok (.if_icmp .ge 21, 3) := by decide +kernel
theorem dX8_restore_23 : decode cX8_restore 23 = .ok (.aload_n 0, 1) := by decide +kernel
theorem dX8_restore_24 : decode cX8_restore 24 = .ok (.getfield 7, 3) := by decide +kernel
theorem dX8_restore_27 : decode cX8_restore 27 = .ok (.iload_n 1, 1) := by decide +kernel
theorem dX8_restore_28 : decode cX8_restore 28 = .ok (.aload_n 0, 1) := by decide +kernel
theorem dX8_restore_29 : decode cX8_restore 29 = .ok (.getfield 19, 3) := by decide +kernel
theorem dX8_restore_32 : decode cX8_restore 32 = .ok (.iload_n 1, 1) := by decide +kernel
theorem dX8_restore_33 : decode cX8_restore 33 = .ok (.iaload, 1) := by decide +kernel
theorem dX8_restore_34 : decode cX8_restore 34 = .ok (.iastore, 1) := by decide +kernel
theorem dX8_restore_35 : decode cX8_restore 35 = .ok (.iinc 1 1, 3) := by decide +kernel
theorem dX8_restore_38 : decode cX8_restore 38 = .ok (.goto (-22), 3) := by decide +kernel
theorem dX8_restore_41 : decode cX8_restore 41 = .ok (.aload_n 0, 1) := by decide +kernel
theorem dX8_restore_42 : decode cX8_restore 42 = .ok (.getfield 7, 3) := by decide +kernel
theorem dX8_restore_45 : decode cX8_restore 45 = .ok (.iconst 0, 1) := by decide +kernel
theorem dX8_restore_46 : decode cX8_restore 46 = .ok (.iaload, 1) := by decide +kernel
theorem dX8_restore_47 : decode cX8_restore 47 = .ok (.ireturn, 1) := by decide +kernel
theorem dX8_rate_0 : decode cX8_rate 0 = .ok (.iload_n 1, 1) := by decide +kernel
theorem dX8_rate_1 : decode cX8_rate 1 = .ok (.iconst 0, 1) := by decide +kernel
theorem dX8_rate_2 : decode cX8_rate 2 = .ok (.iconst 2, 1) := by decide +kernel
theorem dX8_rate_3 : decode cX8_rate 3 = .ok (.invokestatic 38, 3) := by decide +kernel
theorem dX8_rate_6 : decode cX8_rate 6 = .ok (.ifCond .eq 11, 3) := by decide +kernel
theorem dX8_rate_9 : decode cX8_rate 9 = .ok (.aload_n 0, 1) := by decide +kernel
theorem dX8_rate_10 : decode cX8_rate 10 = .ok (.iload_n 1, 1) := by decide +kernel
theorem dX8_rate_11 : decode cX8_rate 11 = .ok (.invokevirtual 62, 3) := by decide +kernel
theorem dX8_rate_14 : decode cX8_rate 14 = .ok (.goto 6, 3) := by decide +kernel
theorem dX8_rate_17 : decode cX8_rate 17 = .ok (.invokestatic 157, 3) := by decide +kernel
theorem dX8_rate_20 : decode cX8_rate 20 = .ok (.freturn, 1) := by decide +kernel
theorem dX8_number__0 : decode cX8_number_ 0 = .ok (.iload_n 1, 1) := by decide +kernel
theorem dX8_number__1 : decode cX8_number_ 1 = .ok (.iconst 0, 1) := by decide +kernel
theorem dX8_number__2 : decode cX8_number_ 2 = .ok (.iconst 2, 1) := by decide +kernel
theorem dX8_number__3 : decode cX8_number_ 3 = .ok (.invokestatic 38, 3) := by decide +kernel
theorem dX8_number__6 : decode cX8_number_ 6 = .ok (.ifCond .eq 14, 3) := by decide +kernel
theorem dX8_number__9 : decode cX8_number_ 9 = .ok (.aload_n 0, 1) := by decide +kernel
theorem dX8_number__10 : decode cX8_number_ 10 = .ok (.getfield 7, 3) := by decide +kernel
theorem dX8_number__13 : decode cX8_number_ 13 = .ok (.iconst 5, 1) := by decide +kernel
theorem dX8_number__14 : decode cX8_number_ 14 = .ok (.iload_n 1, 1) := by decide +kernel
theorem dX8_number__15 : decode cX8_number_ 15 = .ok (.iadd, 1) := by decide +kernel
theorem dX8_number__16 : decode cX8_number_ 16 = .ok (.iaload, 1) := by decide +kernel
theorem dX8_number__17 : decode cX8_number_ 17 = .ok (.goto 4, 3) := by decide +kernel
theorem dX8_number__20 : decode cX8_number_ 20 = .ok (.iconst (-1), 1) := by decide +kernel
theorem dX8_number__21 : decode cX8_number_ 21 = .ok (.ireturn, 1) := by decide +kernel
theorem dX8_invoices_0 : decode cX8_invoices 0 = .ok (.iconst 0, 1) := by decide +kernel
theorem dX8_invoices_1 : decode cX8_invoices 1 = .ok (.istore 5, 2) := by decide +kernel
theorem dX8_invoices_3 : decode cX8_invoices 3 = .ok (.iconst 0, 1) := by decide +kernel
theorem dX8_invoices_4 : decode cX8_invoices 4 = .ok (.istore 6, 2) := by decide +kernel
theorem dX8_invoices_6 : decode cX8_invoices 6 = .ok (.iload 6, 2) := by decide +kernel
theorem dX8_invoices_8 : decode cX8_invoices 8 = .ok (.aload_n 0, 1) := by decide +kernel
theorem dX8_invoices_9 : decode cX8_invoices 9 = .ok (.getfield 7, 3) := by decide +kernel
theorem dX8_invoices_12 : decode cX8_invoices 12 = .ok (.bipush 9, 2) := by decide +kernel
theorem dX8_invoices_14 : decode cX8_invoices 14 = .ok (.iaload, 1) := by decide +kernel
theorem dX8_invoices_15 : decode cX8_invoices 15 = .ok (.if_icmp .ge 58, 3) := by decide +kernel
theorem dX8_invoices_18 : decode cX8_invoices 18 = .ok (.iload 5, 2) := by decide +kernel
theorem dX8_invoices_20 : decode cX8_invoices 20 = .ok (.iload_n 1, 1) := by decide +kernel
theorem dX8_invoices_21 : decode cX8_invoices 21 = .ok (.ifCond .lt 18, 3) := by decide +kernel
theorem dX8_invoices_24 : decode cX8_invoices 24 = .ok (.aload_n 0, 1) := by decide +kernel
theorem dX8_invoices_25 : decode cX8_invoices 25 = .ok (.getfield 7, 3) := by decide +kernel
theorem dX8_invoices_28 : decode cX8_invoices 28 = .ok (.iload 6, 2) := by decide +kernel
theorem dX8_invoices_30 : decode cX8_invoices 30 = .ok (.iload_n 1, 1) := by decide +kernel
theorem dX8_invoices_31 : decode cX8_invoices 31 = .ok (.invokestatic 59, 3) := by decide +kernel
theorem dX8_invoices_34 : decode cX8_invoices 34 = .ok (.iaload, 1) := by decide +kernel
theorem dX8_invoices_35 : decode cX8_invoices 35 = .ok (.iload_n 2, 1) := by decide +kernel
theorem dX8_invoices_36 : decode cX8_invoices 36 = .ok (.if_icmp .ne 27, 3) := by decide +kernel
theorem dX8_invoices_39 : decode cX8_invoices 39 = .ok (.aload_n 0, 1) := by decide +kernel
theorem dX8_invoices_40 : decode cX8_invoices 40 = .ok (.getfield 7, 3) := by decide +kernel
theorem dX8_invoices_43 : decode cX8_invoices 43 = .ok (.iload 6, 2) := by decide +kernel
theorem dX8_invoices_45 : decode cX8_invoices 45 = .ok (.iconst 4, 1) := by decide +kernel
theorem dX8_invoices_46 : decode cX8_invoices 46 = .ok (.invokestatic 59, 3) := by decide +kernel
theorem dX8_invoices_49 : decode cX8_invoices 49 = .ok (.iaload, 1) := by decide +kernel
theorem dX8_invoices_50 : decode cX8_invoices 50 = .ok (.iload_n 3, 1) := by decide +kernel
theorem dX8_invoices_51 : decode cX8_invoices 51 = .ok (.iload 4, 2) := by decide +kernel
theorem dX8_invoices_53 : decode cX8_invoices 53 = .ok (.invokestatic 38, 3) := by decide +kernel
theorem dX8_invoices_56 : decode cX8_invoices 56 = .ok (.ifCond .eq 7, 3) := by decide +kernel
theorem dX8_invoices_59 : decode cX8_invoices 59 = .ok (.iconst 1, 1) := by decide +kernel
theorem dX8_invoices_60 : decode cX8_invoices 60 = .ok (.goto 4, 3) := by decide +kernel
theorem dX8_invoices_63 : decode cX8_invoices 63 = .ok (.iconst 0, 1) := by decide +kernel
theorem dX8_invoices_64 : decode cX8_invoices 64 = .ok (.iadd, 1) := by decide +kernel
theorem dX8_invoices_65 : decode cX8_invoices 65 = .ok (.istore 5, 2) := by decide +kernel
theorem dX8_invoices_67 : decode cX8_invoices 67 = .ok (.iinc 6 1, 3) := by decide +kernel
theorem dX8_invoices_70 : decode cX8_invoices 70 = .ok (.goto (-64), 3) := by decide +kernel
theorem dX8_invoices_73 : decode cX8_invoices 73 = .ok (.iload 5, 2) := by decide +kernel
theorem dX8_invoices_75 : decode cX8_invoices 75 = .ok (.ireturn, 1) := by decide +kernel
theorem dX8_member_0 : decode cX8_member 0 = .ok (.aload_n 0, 1) := by decide +kernel
theorem dX8_member_1 : decode cX8_member 1 = .ok (.iload_n 1, 1) := by decide +kernel
theorem dX8_member_2 : decode cX8_member 2 = .ok (.invokevirtual 87, 3) := by decide +kernel
theorem dX8_member_5 : decode cX8_member 5 = .ok (.ifCond .ne 5, 3) := by decide +kernel
theorem dX8_member_8 : decode cX8_member 8 = .ok (.iconst (-1), 1) := by decide +kernel
theorem dX8_member_9 : decode cX8_member 9 = .ok (.ireturn, 1) := by decide +kernel
theorem dX8_member_10 : decode cX8_member 10 = .ok (.iload_n 2, 1) := by decide +kernel
theorem dX8_member_11 : decode cX8_member 11 = .ok (.tableswitch 94 0 5 #[37, 37, 48, 62, 71, 80], 37) := by decide +kernel
theorem dX8_member_48 : decode cX8_member 48 = .ok (.aload_n 0, 1) := by decide +kernel
theorem dX8_member_49 : decode cX8_member 49 = .ok (.getfield 7, 3) := by decide +kernel
theorem dX8_member_52 : decode cX8_member 52 = .ok (.iload_n 1, 1) := by decide +kernel
theorem dX8_member_53 : decode cX8_member 53 = .ok (.iload_n 2, 1) := by decide +kernel
theorem dX8_member_54 : decode cX8_member 54 = .ok (.invokestatic 84, 3) := by decide +kernel
theorem dX8_member_57 : decode cX8_member 57 = .ok (.iaload, 1) := by decide +kernel
theorem dX8_member_58 : decode cX8_member 58 = .ok (.ireturn, 1) := by decide +kernel
theorem dX8_member_59 : decode cX8_member 59 = .ok (.aload_n 0, 1) := by decide +kernel
theorem dX8_member_60 : decode cX8_member 60 = .ok (.getfield 7, 3) := by decide +kernel
theorem dX8_member_63 : decode cX8_member 63 = .ok (.iload_n 1, 1) := by decide +kernel
theorem dX8_member_64 : decode cX8_member 64 = .ok (.iconst 2, 1) := by decide +kernel
theorem dX8_member_65 : decode cX8_member 65 = .ok (.invokestatic 84, 3) := by decide +kernel
theorem dX8_member_68 : decode cX8_member 68 = .ok (.iaload, 1) := by decide +kernel
theorem dX8_member_69 : decode cX8_member 69 = .ok (.ldc 161, 2) := by decide +kernel
theorem dX8_member_71 : decode cX8_member 71 = .ok (.iadd, 1) := by decide +kernel
theorem dX8_member_72 : decode cX8_member 72 = .ok (.ireturn, 1) := by decide +kernel
theorem dX8_member_73 : decode cX8_member 73 = .ok (.aload_n 0, 1) := by decide +kernel
theorem dX8_member_74 : decode cX8_member 74 = .ok (.iconst 0, 1) := by decide +kernel
theorem dX8_member_75 : decode cX8_member 75 = .ok (.iload_n 1, 1) := by decide +kernel
theorem dX8_member_76 : decode cX8_member 76 = .ok (.iconst 0, 1) := by decide +kernel
theorem dX8_member_77 : decode cX8_member 77 = .ok (.iconst 3, 1) := by decide +kernel
theorem dX8_member_78 : decode cX8_member 78 = .ok (.invokevirtual 162, 3) := by decide +kernel
theorem dX8_member_81 : decode cX8_member 81 = .ok (.ireturn, 1) := by decide +kernel
theorem dX8_member_82 : decode cX8_member 82 = .ok (.aload_n 0, 1) := by decide +kernel
theorem dX8_member_83 : decode cX8_member 83 = .ok (.iconst 0, 1) := by decide +kernel
theorem dX8_member_84 : decode cX8_member 84 = .ok (.iload_n 1, 1) := by decide +kernel
theorem dX8_member_85 : decode cX8_member 85 = .ok (.iconst 1, 1) := by decide +kernel
theorem dX8_member_86 : decode cX8_member 86 = .ok (.iconst 1, 1) := by decide +kernel
theorem dX8_member_87 : decode cX8_member 87 = .ok (.invokevirtual 162, 3) := by decide +kernel
theorem dX8_member_90 : decode cX8_member 90 = .ok (.ireturn, 1) := by decide +kernel
theorem dX8_member_91 : decode cX8_member 91 = .ok (.aload_n 0, 1) := by decide +kernel
theorem dX8_member_92 : decode cX8_member 92 = .ok (.getfield 7, 3) := by decide +kernel
theorem dX8_member_95 : decode cX8_member 95 = .ok (.iload_n 1, 1) := by decide +kernel
theorem dX8_member_96 : decode cX8_member 96 = .ok (.iconst 3, 1) := by decide +kernel
theorem dX8_member_97 : decode cX8_member 97 = .ok (.invokestatic 84, 3) := by decide +kernel
theorem dX8_member_100 : decode cX8_member 100 = .ok (.iaload, 1) := by decide +kernel
theorem dX8_member_101 : decode cX8_member 101 = .ok (.ldc 161, 2) := by decide +kernel
theorem dX8_member_103 : decode cX8_member 103 = .ok (.iadd, 1) := by decide +kernel
theorem dX8_member_104 : decode cX8_member 104 = .ok (.ireturn, 1) := by decide +kernel
theorem dX8_member_105 : decode cX8_member 105 = .ok (.bipush (-2), 2) := by decide +kernel
theorem dX8_member_107 : decode cX8_member 107 = .ok (.ireturn, 1) := by decide +kernel
theorem dX8_client_0 : decode cX8_client 0 = .ok (.iload_n 1, 1) := by decide +kernel
theorem dX8_client_1 : decode cX8_client 1 = .ok (.invokestatic 93, 3) := by decide +kernel
theorem dX8_client_4 : decode cX8_client 4 = .ok (.ifCond .ne 5, 3) := by decide +kernel
theorem dX8_client_7 : decode cX8_client 7 = .ok (.iconst (-1), 1) := by decide +kernel
theorem dX8_client_8 : decode cX8_client 8 = .ok (.ireturn, 1) := by decide +kernel
theorem dX8_client_9 : decode cX8_client 9 = .ok (.iload_n 2, 1) := by decide +kernel
theorem dX8_client_10 : decode cX8_client 10 = .ok (.iconst 0, 1) := by decide +kernel
theorem dX8_client_11 : decode cX8_client 11 = .ok (.iconst 3, 1) := by decide +kernel
theorem dX8_client_12 : decode cX8_client 12 = .ok (.invokestatic 38, 3) := by decide +kernel
theorem dX8_client_15 : decode cX8_client 15 = .ok (.ifCond .ne 8, 3) := by decide +kernel
theorem dX8_client_18 : decode cX8_client 18 = .ok (.bipush (-2), 2) := by decide +kernel
theorem dX8_client_20 : decode cX8_client 20 = .ok (.goto 29, 3) := by decide +kernel
theorem dX8_client_23 : decode cX8_client 23 = .ok (.iload_n 2, 1) := by decide +kernel
theorem dX8_client_24 : decode cX8_client 24 = .ok (.iconst 3, 1) := by decide +kernel
theorem dX8_client_25 : decode cX8_client 25 = .ok (.if_icmp .ne 14, 3) := by decide +kernel
theorem dX8_client_28 : decode cX8_client 28 = .ok (.aload_n 0, 1) := by decide +kernel
theorem dX8_client_29 : decode cX8_client 29 = .ok (.iconst 1, 1) := by decide +kernel
theorem dX8_client_30 : decode cX8_client 30 = .ok (.iload_n 1, 1) := by decide +kernel
theorem dX8_client_31 : decode cX8_client 31 = .ok (.iconst 0, 1) := by decide +kernel
theorem dX8_client_32 : decode cX8_client 32 = .ok (.iconst 1, 1) := by decide +kernel
theorem dX8_client_33 : decode cX8_client 33 = .ok (.invokevirtual 162, 3) := by decide +kernel
theorem dX8_client_36 : decode cX8_client 36 = .ok (.goto 13, 3) := by decide +kernel
theorem dX8_client_39 : decode cX8_client 39 = .ok (.aload_n 0, 1) := by decide +kernel
theorem dX8_client_40 : decode cX8_client 40 = .ok (.getfield 7, 3) := by decide +kernel
theorem dX8_client_43 : decode cX8_client 43 = .ok (.iload_n 1, 1) := by decide +kernel
theorem dX8_client_44 : decode cX8_client 44 = .ok (.iload_n 2, 1) := by decide +kernel
theorem dX8_client_45 : decode cX8_client 45 = .ok (.invokestatic 55, 3) := by decide +kernel
theorem dX8_client_48 : decode cX8_client 48 = .ok (.iaload, 1) := by decide +kernel
theorem dX8_client_49 : decode cX8_client 49 = .ok (.ireturn, 1) := by decide +kernel
theorem dX8_risk_0 : decode cX8_risk 0 = .ok (.iload_n 1, 1) := by decide +kernel
theorem dX8_risk_1 : decode cX8_risk 1 = .ok (.invokestatic 93, 3) := by decide +kernel
theorem dX8_risk_4 : decode cX8_risk 4 = .ok (.ifCond .eq 11, 3) := by decide +kernel
theorem dX8_risk_7 : decode cX8_risk 7 = .ok (.aload_n 0, 1) := by decide +kernel
theorem dX8_risk_8 : decode cX8_risk 8 = .ok (.iload_n 1, 1) := by decide +kernel
theorem dX8_risk_9 : decode cX8_risk 9 = .ok (.invokevirtual 68, 3) := by decide +kernel
theorem dX8_risk_12 : decode cX8_risk 12 = .ok (.goto 6, 3) := by decide +kernel
theorem dX8_risk_15 : decode cX8_risk 15 = .ok (.invokestatic 157, 3) := by decide +kernel
theorem dX8_risk_18 : decode cX8_risk 18 = .ok (.freturn, 1) := by decide +kernel
theorem dX8_lateness_0 : decode cX8_lateness 0 = .ok (.iload_n 1, 1) := by decide +kernel
theorem dX8_lateness_1 : decode cX8_lateness 1 = .ok (.invokestatic 93, 3) := by decide +kernel
theorem dX8_lateness_4 : decode cX8_lateness 4 = .ok (.ifCond .ne 7, 3) := by decide +kernel
theorem dX8_lateness_7 : decode cX8_lateness 7 = .ok (.invokestatic 157, 3) := by decide +kernel
theorem dX8_lateness_10 : decode cX8_lateness 10 = .ok (.freturn, 1) := by decide +kernel
theorem dX8_lateness_11 : decode cX8_lateness 11 = .ok (.aload_n 0, 1) := by decide +kernel
theorem dX8_lateness_12 : decode cX8_lateness 12 = .ok (.getfield 7, 3) := by decide +kernel
theorem dX8_lateness_15 : decode cX8_lateness 15 = .ok (.iload_n 1, 1) := by decide +kernel
theorem dX8_lateness_16 : decode cX8_lateness 16 = .ok (.iconst 0, 1) := by decide +kernel
theorem dX8_lateness_17 : decode cX8_lateness 17 = .ok (.invokestatic 55, 3) := by decide +kernel
theorem dX8_lateness_20 : decode cX8_lateness 20 = .ok (.iaload, 1) := by decide +kernel
theorem dX8_lateness_21 : decode cX8_lateness 21 = .ok (.istore_n 2, 1) := by decide +kernel
theorem dX8_lateness_22 : decode cX8_lateness 22 = .ok (.iload_n 2, 1) := by decide +kernel
theorem dX8_lateness_23 : decode cX8_lateness 23 = .ok (.ifCond .ne 7, 3) := by decide +kernel
theorem dX8_lateness_26 : decode cX8_lateness 26 = .ok (.fconst 0, 1) := by decide +kernel
theorem dX8_lateness_27 : decode cX8_lateness 27 = .ok (.goto 17, 3) := by decide +kernel
theorem dX8_lateness_30 : decode cX8_lateness 30 = .ok (.aload_n 0, 1) := by decide +kernel
theorem dX8_lateness_31 : decode cX8_lateness 31 = .ok (.getfield 7, 3) := by decide +kernel
theorem dX8_lateness_34 : decode cX8_lateness 34 = .ok (.iload_n 1, 1) := by decide +kernel
theorem dX8_lateness_35 : decode cX8_lateness 35 = .ok (.iconst 2, 1) := by decide +kernel
theorem dX8_lateness_36 : decode cX8_lateness 36 = .ok (.invokestatic 55, 3) := by decide +kernel
theorem dX8_lateness_39 : decode cX8_lateness 39 = .ok (.iaload, 1) := by decide +kernel
theorem dX8_lateness_40 : decode cX8_lateness 40 = .ok (.i2f, 1) := by decide +kernel
theorem dX8_lateness_41 : decode cX8_lateness 41 = .ok (.iload_n 2, 1) := by decide +kernel
theorem dX8_lateness_42 : decode cX8_lateness 42 = .ok (.i2f, 1) := by decide +kernel
theorem dX8_lateness_43 : decode cX8_lateness 43 = .ok (.fdiv, 1) := by decide +kernel
theorem dX8_lateness_44 : decode cX8_lateness 44 = .ok (.freturn, 1) := by decide +kernel
theorem dX8_invoice_0 : decode cX8_invoice 0 = .ok (.aload_n 0, 1) := by decide +kernel
theorem dX8_invoice_1 : decode cX8_invoice 1 = .ok (.iload_n 1, 1) := by decide +kernel
theorem dX8_invoice_2 : decode cX8_invoice 2 = .ok (.invokevirtual 105, 3) := by decide +kernel
theorem dX8_invoice_5 : decode cX8_invoice 5 = .ok (.ifCond .ne 5, 3) := by decide +kernel
theorem dX8_invoice_8 : decode cX8_invoice 8 = .ok (.iconst (-1), 1) := by decide +kernel
theorem dX8_invoice_9 : decode cX8_invoice 9 = .ok (.ireturn, 1) := by decide +kernel
theorem dX8_invoice_10 : decode cX8_invoice 10 = .ok (.iload_n 2, 1) := by decide +kernel
theorem dX8_invoice_11 : decode cX8_invoice 11 = .ok (.tableswitch 85 7 10 #[29, 50, 57, 71], 29) := by decide +kernel
theorem dX8_invoice_40 : decode cX8_invoice 40 = .ok (.aload_n 0, 1) := by decide +kernel
theorem dX8_invoice_41 : decode cX8_invoice 41 = .ok (.getfield 7, 3) := by decide +kernel
theorem dX8_invoice_44 : decode cX8_invoice 44 = .ok (.iconst 0, 1) := by decide +kernel
theorem dX8_invoice_45 : decode cX8_invoice 45 = .ok (.iaload, 1) := by decide +kernel
theorem dX8_invoice_46 : decode cX8_invoice 46 = .ok (.aload_n 0, 1) := by decide +kernel
theorem dX8_invoice_47 : decode cX8_invoice 47 = .ok (.getfield 7, 3) := by decide +kernel
theorem dX8_invoice_50 : decode cX8_invoice 50 = .ok (.iload_n 1, 1) := by decide +kernel
theorem dX8_invoice_51 : decode cX8_invoice 51 = .ok (.iconst 3, 1) := by decide +kernel
theorem dX8_invoice_52 : decode cX8_invoice 52 = .ok (.invokestatic 59, 3) := by decide +kernel
theorem dX8_invoice_55 : decode cX8_invoice 55 = .ok (.iaload, 1) := by decide +kernel
theorem dX8_invoice_56 : decode cX8_invoice 56 = .ok (.isub, 1) := by decide +kernel
theorem dX8_invoice_57 : decode cX8_invoice 57 = .ok (.ldc 166, 2) := by decide +kernel
theorem dX8_invoice_59 : decode cX8_invoice 59 = .ok (.iadd, 1) := by decide +kernel
theorem dX8_invoice_60 : decode cX8_invoice 60 = .ok (.ireturn, 1) := by decide +kernel
theorem dX8_invoice_61 : decode cX8_invoice 61 = .ok (.aload_n 0, 1) := by decide +kernel
theorem dX8_invoice_62 : decode cX8_invoice 62 = .ok (.iload_n 1, 1) := by decide +kernel
theorem dX8_invoice_63 : decode cX8_invoice 63 = .ok (.iconst 0, 1) := by decide +kernel
theorem dX8_invoice_64 : decode cX8_invoice 64 = .ok (.invokevirtual 75, 3) := by decide +kernel
theorem dX8_invoice_67 : decode cX8_invoice 67 = .ok (.ireturn, 1) := by decide +kernel
theorem dX8_invoice_68 : decode cX8_invoice 68 = .ok (.aload_n 0, 1) := by decide +kernel
theorem dX8_invoice_69 : decode cX8_invoice 69 = .ok (.iload_n 1, 1) := by decide +kernel
theorem dX8_invoice_70 : decode cX8_invoice 70 = .ok (.invokevirtual 108, 3) := by decide +kernel
theorem dX8_invoice_73 : decode cX8_invoice 73 = .ok (.ifCond .eq 7, 3) := by decide +kernel
theorem dX8_invoice_76 : decode cX8_invoice 76 = .ok (.iconst 1, 1) := by decide +kernel
theorem dX8_invoice_77 : decode cX8_invoice 77 = .ok (.goto 4, 3) := by decide +kernel
theorem dX8_invoice_80 : decode cX8_invoice 80 = .ok (.iconst 0, 1) := by decide +kernel
theorem dX8_invoice_81 : decode cX8_invoice 81 = .ok (.ireturn, 1) := by decide +kernel
theorem dX8_invoice_82 : decode cX8_invoice 82 = .ok (.aload_n 0, 1) := by decide +kernel
theorem dX8_invoice_83 : decode cX8_invoice 83 = .ok (.iload_n 1, 1) := by decide +kernel
theorem dX8_invoice_84 : decode cX8_invoice 84 = .ok (.invokevirtual 117, 3) := by decide +kernel
theorem dX8_invoice_87 : decode cX8_invoice 87 = .ok (.ifCond .eq 7, 3) := by decide +kernel
theorem dX8_invoice_90 : decode cX8_invoice 90 = .ok (.iconst 1, 1) := by decide +kernel
theorem dX8_invoice_91 : decode cX8_invoice 91 = .ok (.goto 4, 3) := by decide +kernel
theorem dX8_invoice_94 : decode cX8_invoice 94 = .ok (.iconst 0, 1) := by decide +kernel
theorem dX8_invoice_95 : decode cX8_invoice 95 = .ok (.ireturn, 1) := by decide +kernel
theorem dX8_invoice_96 : decode cX8_invoice 96 = .ok (.iload_n 2, 1) := by decide +kernel
theorem dX8_invoice_97 : decode cX8_invoice 97 = .ok (.iconst 0, 1) := by decide +kernel
theorem dX8_invoice_98 : decode cX8_invoice 98 = .ok (.bipush 6, 2) := by decide +kernel
theorem dX8_invoice_100 : decode cX8_invoice 100 = .ok (.invokestatic 38, 3) := by decide +kernel
theorem dX8_invoice_103 : decode cX8_invoice 103 = .ok (.ifCond .eq 16, 3) := by decide +kernel
theorem dX8_invoice_106 : decode cX8_invoice 106 = .ok (.aload_n 0, 1) := by decide +kernel
theorem dX8_invoice_107 : decode cX8_invoice 107 = .ok (.getfield 7, 3) := by decide +kernel
theorem dX8_invoice_110 : decode cX8_invoice 110 = .ok (.iload_n 1, 1) := by decide +kernel
theorem dX8_invoice_111 : decode cX8_invoice 111 = .ok (.iload_n 2, 1) := by decide +kernel
theorem dX8_invoice_112 : decode cX8_invoice 112 = .ok (.invokestatic 59, 3) := by decide +kernel
theorem dX8_invoice_115 : decode cX8_invoice 115 = .ok (.iaload, 1) := by decide +kernel
theorem dX8_invoice_116 : decode cX8_invoice 116 = .ok (.goto 5, 3) := by decide +kernel
theorem dX8_invoice_119 : decode cX8_invoice 119 = .ok (.bipush (-2), 2) := by decide +kernel
theorem dX8_invoice_121 : decode cX8_invoice 121 = .ok (.ireturn, 1) := by decide +kernel
theorem dX8_rateIn_0 : decode cX8_rateIn 0 = .ok (.aload_n 0, 1) := by decide +kernel
theorem dX8_rateIn_1 : decode cX8_rateIn 1 = .ok (.iload_n 1, 1) := by decide +kernel
theorem dX8_rateIn_2 : decode cX8_rateIn 2 = .ok (.invokevirtual 105, 3) := by decide +kernel
theorem dX8_rateIn_5 : decode cX8_rateIn 5 = .ok (.ifCond .eq 23, 3) := by decide +kernel
theorem dX8_rateIn_8 : decode cX8_rateIn 8 = .ok (.iload_n 2, 1) := by decide +kernel
theorem dX8_rateIn_9 : decode cX8_rateIn 9 = .ok (.iconst 0, 1) := by decide +kernel
theorem dX8_rateIn_10 : decode cX8_rateIn 10 = .ok (.sipush 1000, 3) := by decide +kernel
theorem dX8_rateIn_13 : decode cX8_rateIn 13 = .ok (.invokestatic 38, 3) := by decide +kernel
theorem dX8_rateIn_16 : decode cX8_rateIn 16 = .ok (.ifCond .eq 12, 3) := by decide +kernel
theorem dX8_rateIn_19 : decode cX8_rateIn 19 = .ok (.aload_n 0, 1) := by decide +kernel
theorem dX8_rateIn_20 : decode cX8_rateIn 20 = .ok (.iload_n 1, 1) := by decide +kernel
theorem dX8_rateIn_21 : decode cX8_rateIn 21 = .ok (.iload_n 2, 1) := by decide +kernel
theorem dX8_rateIn_22 : decode cX8_rateIn 22 = .ok (.invokevirtual 71, 3) := by decide +kernel
theorem dX8_rateIn_25 : decode cX8_rateIn 25 = .ok (.goto 6, 3) := by decide +kernel
theorem dX8_rateIn_28 : decode cX8_rateIn 28 = .ok (.invokestatic 157, 3) := by decide +kernel
theorem dX8_rateIn_31 : decode cX8_rateIn 31 = .ok (.freturn, 1) := by decide +kernel
theorem dX8_worth_0 : decode cX8_worth 0 = .ok (.aload_n 0, 1) := by decide +kernel
theorem dX8_worth_1 : decode cX8_worth 1 = .ok (.iload_n 1, 1) := by decide +kernel
theorem dX8_worth_2 : decode cX8_worth 2 = .ok (.invokevirtual 105, 3) := by decide +kernel
theorem dX8_worth_5 : decode cX8_worth 5 = .ok (.ifCond .eq 11, 3) := by decide +kernel
theorem dX8_worth_8 : decode cX8_worth 8 = .ok (.aload_n 0, 1) := by decide +kernel
theorem dX8_worth_9 : decode cX8_worth 9 = .ok (.iload_n 1, 1) := by decide +kernel
theorem dX8_worth_10 : decode cX8_worth 10 = .ok (.invokevirtual 167, 3) := by decide +kernel
theorem dX8_worth_13 : decode cX8_worth 13 = .ok (.goto 6, 3) := by decide +kernel
theorem dX8_worth_16 : decode cX8_worth 16 = .ok (.invokestatic 157, 3) := by decide +kernel
theorem dX8_worth_19 : decode cX8_worth 19 = .ok (.freturn, 1) := by decide +kernel
theorem dX8_best_0 : decode cX8_best 0 = .ok (.iload_n 1, 1) := by decide +kernel
theorem dX8_best_1 : decode cX8_best 1 = .ok (.ifCond .ge 6, 3) := by decide +kernel
theorem dX8_best_4 : decode cX8_best 4 = .ok (.bipush (-2), 2) := by decide +kernel
theorem dX8_best_6 : decode cX8_best 6 = .ok (.ireturn, 1) := by decide +kernel
theorem dX8_best_7 : decode cX8_best 7 = .ok (.iconst 0, 1) := by decide +kernel
theorem dX8_best_8 : decode cX8_best 8 = .ok (.istore_n 2, 1) := by decide +kernel
theorem dX8_best_9 : decode cX8_best 9 = .ok (.iload_n 2, 1) := by decide +kernel
theorem dX8_best_10 : decode cX8_best 10 = .ok (.aload_n 0, 1) := by decide +kernel
theorem dX8_best_11 : decode cX8_best 11 = .ok (.getfield 7, 3) := by decide +kernel
theorem dX8_best_14 : decode cX8_best 14 = .ok (.bipush 9, 2) := by decide +kernel
theorem dX8_best_16 : decode cX8_best 16 = .ok (.iaload, 1) := by decide +kernel
theorem dX8_best_17 : decode cX8_best 17 = .ok (.if_icmp .ge 100, 3) := by decide +kernel
theorem dX8_best_20 : decode cX8_best 20 = .ok (.iconst 0, 1) := by decide +kernel
theorem dX8_best_21 : decode cX8_best 21 = .ok (.istore_n 3, 1) := by decide +kernel
theorem dX8_best_22 : decode cX8_best 22 = .ok (.iconst 0, 1) := by decide +kernel
theorem dX8_best_23 : decode cX8_best 23 = .ok (.istore 4, 2) := by decide +kernel
theorem dX8_best_25 : decode cX8_best 25 = .ok (.iload 4, 2) := by decide +kernel
theorem dX8_best_27 : decode cX8_best 27 = .ok (.aload_n 0, 1) := by decide +kernel
theorem dX8_best_28 : decode cX8_best 28 = .ok (.getfield 7, 3) := by decide +kernel
theorem dX8_best_31 : decode cX8_best 31 = .ok (.bipush 9, 2) := by decide +kernel
theorem dX8_best_33 : decode cX8_best 33 = .ok (.iaload, 1) := by decide +kernel
theorem dX8_best_34 : decode cX8_best 34 = .ok (.if_icmp .ge 62, 3) := by decide +kernel
theorem dX8_best_37 : decode cX8_best 37 = .ok (.iload_n 3, 1) := by decide +kernel
theorem dX8_best_38 : decode cX8_best 38 = .ok (.aload_n 0, 1) := by decide +kernel
theorem dX8_best_39 : decode cX8_best 39 = .ok (.iload 4, 2) := by decide +kernel
theorem dX8_best_41 : decode cX8_best 41 = .ok (.invokevirtual 108, 3) := by decide +kernel
theorem dX8_best_44 : decode cX8_best 44 = .ok (.ifCond .eq 43, 3) := by decide +kernel
theorem dX8_best_47 : decode cX8_best 47 = .ok (.aload_n 0, 1) := by decide +kernel
theorem dX8_best_48 : decode cX8_best 48 = .ok (.iload 4, 2) := by decide +kernel
theorem dX8_best_50 : decode cX8_best 50 = .ok (.invokevirtual 167, 3) := by decide +kernel
theorem dX8_best_53 : decode cX8_best 53 = .ok (.aload_n 0, 1) := by decide +kernel
theorem dX8_best_54 : decode cX8_best 54 = .ok (.iload_n 2, 1) := by decide +kernel
theorem dX8_best_55 : decode cX8_best 55 = .ok (.invokevirtual 167, 3) := by decide +kernel
theorem dX8_best_58 : decode cX8_best 58 = .ok (.fcmp .l, 1) := by decide +kernel
theorem dX8_best_59 : decode cX8_best 59 = .ok (.ifCond .gt 24, 3) := by decide +kernel
theorem dX8_best_62 : decode cX8_best 62 = .ok (.aload_n 0, 1) := by decide +kernel
theorem dX8_best_63 : decode cX8_best 63 = .ok (.iload 4, 2) := by decide +kernel
theorem dX8_best_65 : decode cX8_best 65 = .ok (.invokevirtual 167, 3) := by decide +kernel
theorem dX8_best_68 : decode cX8_best 68 = .ok (.aload_n 0, 1) := by decide +kernel
theorem dX8_best_69 : decode cX8_best 69 = .ok (.iload_n 2, 1) := by decide +kernel
theorem dX8_best_70 : decode cX8_best 70 = .ok (.invokevirtual 167, 3) := by decide +kernel
theorem dX8_best_73 : decode cX8_best 73 = .ok (.fcmp .l, 1) := by decide +kernel
theorem dX8_best_74 : decode cX8_best 74 = .ok (.ifCond .ne 13, 3) := by decide +kernel
theorem dX8_best_77 : decode cX8_best 77 = .ok (.iload 4, 2) := by decide +kernel
theorem dX8_best_79 : decode cX8_best 79 = .ok (.iload_n 2, 1) := by decide +kernel
theorem dX8_best_80 : decode cX8_best 80 = .ok (.if_icmp .ge 7, 3) := by decide +kernel
theorem dX8_best_83 : decode cX8_best 83 = .ok (.iconst 1, 1) := by decide +kernel
theorem dX8_best_84 : decode cX8_best 84 = .ok (.goto 4, 3) := by decide +kernel
theorem dX8_best_87 : decode cX8_best 87 = .ok (.iconst 0, 1) := by decide +kernel
theorem dX8_best_88 : decode cX8_best 88 = .ok (.iadd, 1) := by decide +kernel
theorem dX8_best_89 : decode cX8_best 89 = .ok (.istore_n 3, 1) := by decide +kernel
theorem dX8_best_90 : decode cX8_best 90 = .ok (.iinc 4 1, 3) := by decide +kernel
theorem dX8_best_93 : decode cX8_best 93 = .ok (.goto (-68), 3) := by decide +kernel
theorem dX8_best_96 : decode cX8_best 96 = .ok (.aload_n 0, 1) := by decide +kernel
theorem dX8_best_97 : decode cX8_best 97 = .ok (.iload_n 2, 1) := by decide +kernel
theorem dX8_best_98 : decode cX8_best 98 = .ok (.invokevirtual 108, 3) := by decide +kernel
theorem dX8_best_101 : decode cX8_best 101 = .ok (.ifCond .eq 10, 3) := by decide +kernel
theorem dX8_best_104 : decode cX8_best 104 = .ok (.iload_n 3, 1) := by decide +kernel
theorem dX8_best_105 : decode cX8_best 105 = .ok (.iload_n 1, 1) := by decide +kernel
theorem dX8_best_106 : decode cX8_best 106 = .ok (.if_icmp .ne 5, 3) := by decide +kernel
theorem dX8_best_109 : decode cX8_best 109 = .ok (.iload_n 2, 1) := by decide +kernel
theorem dX8_best_110 : decode cX8_best 110 = .ok (.ireturn, 1) := by decide +kernel
theorem dX8_best_111 : decode cX8_best 111 = .ok (.iinc 2 1, 3) := by decide +kernel
theorem dX8_best_114 : decode cX8_best 114 = .ok (.goto (-105), 3) := by decide +kernel
theorem dX8_best_117 : decode cX8_best 117 = .ok (.bipush (-5), 2) := by decide +kernel
theorem dX8_best_119 : decode cX8_best 119 = .ok (.ireturn, 1) := by decide +kernel
theorem dX8_worthlessIn_0 : decode cX8_worthlessIn 0 = .ok (.aload_n 0, 1) := by decide +kernel
theorem dX8_worthlessIn_1 : decode cX8_worthlessIn 1 = .ok (.iload_n 1, 1) := by decide +kernel
theorem dX8_worthlessIn_2 : decode cX8_worthlessIn 2 = .ok (.invokevirtual 105, 3) := by decide +kernel
theorem dX8_worthlessIn_5 : decode cX8_worthlessIn 5 = .ok (.ifCond .ne 5, 3) := by decide +kernel
theorem dX8_worthlessIn_8 : decode cX8_worthlessIn 8 = .ok (.iconst (-1), 1) := by decide +kernel
theorem dX8_worthlessIn_9 : decode cX8_worthlessIn 9 = .ok (.ireturn, 1) := by decide +kernel
theorem dX8_worthlessIn_10 : decode cX8_worthlessIn 10 = .ok (.iconst 0, 1) := by decide +kernel
theorem dX8_worthlessIn_11 : decode cX8_worthlessIn 11 = .ok (.istore_n 2, 1) := by decide +kernel
theorem dX8_worthlessIn_12 : decode cX8_worthlessIn 12 = .ok (.iload_n 2, 1) := by decide +kernel
theorem dX8_worthlessIn_13 : decode cX8_worthlessIn 13 = .ok (.sipush 1000, 3) := by decide +kernel
theorem dX8_worthlessIn_16 : decode cX8_worthlessIn 16 = .ok (.if_icmp .gt 20, 3) := by decide +kernel
theorem dX8_worthlessIn_19 : decode cX8_worthlessIn 19 = .ok (.aload_n 0, 1) := by decide +kernel
theorem dX8_worthlessIn_20 : decode cX8_worthlessIn 20 = .ok (.iload_n 1, 1) := by decide +kernel
theorem dX8_worthlessIn_21 : decode cX8_worthlessIn 21 = .ok (.iload_n 2, 1) := by decide +kernel
theorem dX8_worthlessIn_22 : decode cX8_worthlessIn 22 = .ok (.invokevirtual 75, 3) := by decide +kernel
theorem dX8_worthlessIn_25 : decode cX8_worthlessIn 25 = .ok (.ifCond .ne 5, 3) := by decide +kernel
theorem dX8_worthlessIn_28 : decode cX8_worthlessIn 28 = .ok (.iload_n 2, 1) := by decide +kernel
theorem dX8_worthlessIn_29 : decode cX8_worthlessIn 29 = .ok (.ireturn, 1) := by decide +kernel
theorem dX8_worthlessIn_30 : decode cX8_worthlessIn 30 = .ok (.iinc 2 1, 3) := by decide +kernel
theorem dX8_worthlessIn_33 : decode cX8_worthlessIn 33 = .ok (.goto (-21), 3) := by decide +kernel
theorem dX8_worthlessIn_36 : decode cX8_worthlessIn 36 = .ok (.bipush (-5), 2) := by decide +kernel
theorem dX8_worthlessIn_38 : decode cX8_worthlessIn 38 = .ok (.ireturn, 1) := by decide +kernel
theorem dX8_exposure_0 : decode cX8_exposure 0 = .ok (.iconst 0, 1) := by decide +kernel
theorem dX8_exposure_1 : decode cX8_exposure 1 = .ok (.istore_n 1, 1) := by decide +kernel
theorem dX8_exposure_2 : decode cX8_exposure 2 = .ok (.iconst 0, 1) := by decide +kernel
theorem dX8_exposure_3 : decode cX8_exposure 3 = .ok (.istore_n 2, 1) := by decide +kernel
theorem dX8_exposure_4 : decode cX8_exposure 4 = .ok (.iload_n 2, 1) := by decide +kernel
theorem dX8_exposure_5 : decode cX8_exposure 5 = .ok (.aload_n 0, 1) := by decide +kernel
theorem dX8_exposure_6 : decode cX8_exposure 6 = .ok (.getfield 7, 3) := by decide +kernel
theorem dX8_exposure_9 : decode cX8_exposure 9 = .ok (.bipush 9, 2) := by decide +kernel
theorem dX8_exposure_11 : decode cX8_exposure 11 = .ok (.iaload, 1) := by decide +kernel
theorem dX8_exposure_12 : decode cX8_exposure 12 = .ok (.if_icmp .ge 41, 3) := by decide +kernel
theorem dX8_exposure_15 : decode cX8_exposure 15 = .ok (.iload_n 1, 1) := by decide +kernel
theorem dX8_exposure_16 : decode cX8_exposure 16 = .ok (.aload_n 0, 1) := by decide +kernel
theorem dX8_exposure_17 : decode cX8_exposure 17 = .ok (.getfield 7, 3) := by decide +kernel
theorem dX8_exposure_20 : decode cX8_exposure 20 = .ok (.iload_n 2, 1) := by decide +kernel
theorem dX8_exposure_21 : decode cX8_exposure 21 = .ok (.iconst 4, 1) := by decide +kernel
theorem dX8_exposure_22 : decode cX8_exposure 22 = .ok (.invokestatic 59, 3) := by decide +kernel
theorem dX8_exposure_25 : decode cX8_exposure 25 = .ok (.iaload, 1) := by decide +kernel
theorem dX8_exposure_26 : decode cX8_exposure 26 = .ok (.iconst 1, 1) := by decide +kernel
theorem dX8_exposure_27 : decode cX8_exposure 27 = .ok (.if_icmp .ne 17, 3) := by decide +kernel
theorem dX8_exposure_30 : decode cX8_exposure 30 = .ok (.aload_n 0, 1) := by decide +kernel
theorem dX8_exposure_31 : decode cX8_exposure 31 = .ok (.getfield 7, 3) := by decide +kernel
theorem dX8_exposure_34 : decode cX8_exposure 34 = .ok (.iload_n 2, 1) := by decide +kernel
theorem dX8_exposure_35 : decode cX8_exposure 35 = .ok (.bipush 6, 2) := by decide +kernel
theorem dX8_exposure_37 : decode cX8_exposure 37 = .ok (.invokestatic 59, 3) := by decide +kernel
theorem dX8_exposure_40 : decode cX8_exposure 40 = .ok (.iaload, 1) := by decide +kernel
theorem dX8_exposure_41 : decode cX8_exposure 41 = .ok (.goto 4, 3) := by decide +kernel
theorem dX8_exposure_44 : decode cX8_exposure 44 = .ok (.iconst 0, 1) := by decide +kernel
theorem dX8_exposure_45 : decode cX8_exposure 45 = .ok (.iadd, 1) := by decide +kernel
theorem dX8_exposure_46 : decode cX8_exposure 46 = .ok (.istore_n 1, 1) := by decide +kernel
theorem dX8_exposure_47 : decode cX8_exposure 47 = .ok (.iinc 2 1, 3) := by decide +kernel
theorem dX8_exposure_50 : decode cX8_exposure 50 = .ok (.goto (-46), 3) := by decide +kernel
theorem dX8_exposure_53 : decode cX8_exposure 53 = .ok (.aload_n 0, 1) := by decide +kernel
theorem dX8_exposure_54 : decode cX8_exposure 54 = .ok (.invokevirtual 96, 3) := by decide +kernel
theorem dX8_exposure_57 : decode cX8_exposure 57 = .ok (.ifCond .ne 9, 3) := by decide +kernel
theorem dX8_exposure_60 : decode cX8_exposure 60 = .ok (.invokestatic 157, 3) := by decide +kernel
theorem dX8_exposure_63 : decode cX8_exposure 63 = .ok (.goto 11, 3) := by decide +kernel
theorem dX8_exposure_66 : decode cX8_exposure 66 = .ok (.iload_n 1, 1) := by decide +kernel
theorem dX8_exposure_67 : decode cX8_exposure 67 = .ok (.i2f, 1) := by decide +kernel
theorem dX8_exposure_68 : decode cX8_exposure 68 = .ok (.aload_n 0, 1) := by decide +kernel
theorem dX8_exposure_69 : decode cX8_exposure 69 = .ok (.invokevirtual 96, 3) := by decide +kernel
theorem dX8_exposure_72 : decode cX8_exposure 72 = .ok (.i2f, 1) := by decide +kernel
theorem dX8_exposure_73 : decode cX8_exposure 73 = .ok (.fdiv, 1) := by decide +kernel
theorem dX8_exposure_74 : decode cX8_exposure 74 = .ok (.freturn, 1) := by decide +kernel
theorem dX8_count_0 : decode cX8_count 0 = .ok (.iload_n 1, 1) := by decide +kernel
theorem dX8_count_1 : decode cX8_count 1 = .ok (.tableswitch 160 0 15 #[79, 86, 96, 101, 106, 114, 122, 122, 122, 122, 137, 137, 137, 137, 150, 155], 79) := by decide +kernel
theorem dX8_count_80 : decode cX8_count 80 = .ok (.aload_n 0, 1) := by decide +kernel
theorem dX8_count_81 : decode cX8_count 81 = .ok (.getfield 7, 3) := by decide +kernel
theorem dX8_count_84 : decode cX8_count 84 = .ok (.iconst 0, 1) := by decide +kernel
theorem dX8_count_85 : decode cX8_count 85 = .ok (.iaload, 1) := by decide +kernel
theorem dX8_count_86 : decode cX8_count 86 = .ok (.ireturn, 1) := by decide +kernel
theorem dX8_count_87 : decode cX8_count 87 = .ok (.aload_n 0, 1) := by decide +kernel
theorem dX8_count_88 : decode cX8_count 88 = .ok (.getfield 7, 3) := by decide +kernel
theorem dX8_count_91 : decode cX8_count 91 = .ok (.iconst 1, 1) := by decide +kernel
theorem dX8_count_92 : decode cX8_count 92 = .ok (.iaload, 1) := by decide +kernel
theorem dX8_count_93 : decode cX8_count 93 = .ok (.ldc 161, 2) := by decide +kernel
theorem dX8_count_95 : decode cX8_count 95 = .ok (.iadd, 1) := by decide +kernel
theorem dX8_count_96 : decode cX8_count 96 = .ok (.ireturn, 1) := by decide +kernel
theorem dX8_count_97 : decode cX8_count 97 = .ok (.aload_n 0, 1) := by decide +kernel
theorem dX8_count_98 : decode cX8_count 98 = .ok (.invokevirtual 96, 3) := by decide +kernel
theorem dX8_count_101 : decode cX8_count 101 = .ok (.ireturn, 1) := by decide +kernel
theorem dX8_count_102 : decode cX8_count 102 = .ok (.aload_n 0, 1) := by decide +kernel
theorem dX8_count_103 : decode cX8_count 103 = .ok (.invokevirtual 102, 3) := by decide +kernel
theorem dX8_count_106 : decode cX8_count 106 = .ok (.ireturn, 1) := by decide +kernel
theorem dX8_count_107 : decode cX8_count 107 = .ok (.aload_n 0, 1) := by decide +kernel
theorem dX8_count_108 : decode cX8_count 108 = .ok (.getfield 7, 3) := by decide +kernel
theorem dX8_count_111 : decode cX8_count 111 = .ok (.bipush 8, 2) := by decide +kernel
theorem dX8_count_113 : decode cX8_count 113 = .ok (.iaload, 1) := by decide +kernel
theorem dX8_count_114 : decode cX8_count 114 = .ok (.ireturn, 1) := by decide +kernel
theorem dX8_count_115 : decode cX8_count 115 = .ok (.aload_n 0, 1) := by decide +kernel
theorem dX8_count_116 : decode cX8_count 116 = .ok (.getfield 7, 3) := by decide +kernel
theorem dX8_count_119 : decode cX8_count 119 = .ok (.bipush 9, 2) := by decide +kernel
theorem dX8_count_121 : decode cX8_count 121 = .ok (.iaload, 1) := by decide +kernel
theorem dX8_count_122 : decode cX8_count 122 = .ok (.ireturn, 1) := by decide +kernel
theorem dX8_count_123 : decode cX8_count 123 = .ok (.aload_n 0, 1) := by decide +kernel
theorem dX8_count_124 : decode cX8_count 124 = .ok (.iconst (-1), 1) := by decide +kernel
theorem dX8_count_125 : decode cX8_count 125 = .ok (.iconst 0, 1) := by decide +kernel
theorem dX8_count_126 : decode cX8_count 126 = .ok (.iload_n 1, 1) := by decide +kernel
theorem dX8_count_127 : decode cX8_count 127 = .ok (.bipush 6, 2) := by decide +kernel
theorem dX8_count_129 : decode cX8_count 129 = .ok (.isub, 1) := by decide +kernel
theorem dX8_count_130 : decode cX8_count 130 = .ok (.iload_n 1, 1) := by decide +kernel
theorem dX8_count_131 : decode cX8_count 131 = .ok (.bipush 6, 2) := by decide +kernel
theorem dX8_count_133 : decode cX8_count 133 = .ok (.isub, 1) := by decide +kernel
theorem dX8_count_134 : decode cX8_count 134 = .ok (.invokevirtual 162, 3) := by decide +kernel
theorem dX8_count_137 : decode cX8_count 137 = .ok (.ireturn, 1) := by decide +kernel
theorem dX8_count_138 : decode cX8_count 138 = .ok (.aload_n 0, 1) := by decide +kernel
theorem dX8_count_139 : decode cX8_count 139 = .ok (.getfield 7, 3) := by decide +kernel
theorem dX8_count_142 : decode cX8_count 142 = .ok (.bipush 10, 2) := by decide +kernel
theorem dX8_count_144 : decode cX8_count 144 = .ok (.iload_n 1, 1) := by decide +kernel
theorem dX8_count_145 : decode cX8_count 145 = .ok (.iadd, 1) := by decide +kernel
theorem dX8_count_146 : decode cX8_count 146 = .ok (.bipush 10, 2) := by decide +kernel
theorem dX8_count_148 : decode cX8_count 148 = .ok (.isub, 1) := by decide +kernel
theorem dX8_count_149 : decode cX8_count 149 = .ok (.iaload, 1) := by decide +kernel
theorem dX8_count_150 : decode cX8_count 150 = .ok (.ireturn, 1) := by decide +kernel
theorem dX8_count_151 : decode cX8_count 151 = .ok (.aload_n 0, 1) := by decide +kernel
theorem dX8_count_152 : decode cX8_count 152 = .ok (.getfield 42, 3) := by decide +kernel
theorem dX8_count_155 : decode cX8_count 155 = .ok (.ireturn, 1) := by decide +kernel
theorem dX8_count_156 : decode cX8_count 156 = .ok (.aload_n 0, 1) := by decide +kernel
theorem dX8_count_157 : decode cX8_count 157 = .ok (.getfield 127, 3) := by decide +kernel
theorem dX8_count_160 : decode cX8_count 160 = .ok (.ireturn, 1) := by decide +kernel
theorem dX8_count_161 : decode cX8_count 161 = .ok (.bipush (-2), 2) := by decide +kernel
theorem dX8_count_163 : decode cX8_count 163 = .ok (.ireturn, 1) := by decide +kernel
theorem dL_law_0 : decode cL_law 0 = .ok (.new 7, 3) := by decide +kernel
theorem dL_law_3 : decode cL_law 3 = .ok (.dup, 1) := by decide +kernel
theorem dL_law_4 : decode cL_law 4 = .ok (.invokespecial 9, 3) := by decide +kernel
theorem dL_law_7 : decode cL_law 7 = .ok (.astore_n 1, 1) := by decide +kernel
theorem dL_law_8 : decode cL_law 8 = .ok (.new 10, 3) := by decide +kernel
theorem dL_law_11 : decode cL_law 11 = .ok (.dup, 1) := by decide +kernel
theorem dL_law_12 : decode cL_law 12 = .ok (.invokespecial 12, 3) := by decide +kernel
theorem dL_law_15 : decode cL_law 15 = .ok (.astore_n 2, 1) := by decide +kernel
theorem dL_law_16 : decode cL_law 16 = .ok (.iconst 0, 1) := by decide +kernel
theorem dL_law_17 : decode cL_law 17 = .ok (.istore_n 3, 1) := by decide +kernel
theorem dL_law_18 : decode cL_law 18 = .ok (.iload_n 3, 1) := by decide +kernel
theorem dL_law_19 : decode cL_law 19 = .ok (.aload_n 0, 1) := by decide +kernel
theorem dL_law_20 : decode cL_law 20 = .ok (.arraylength, 1) := by decide +kernel
theorem dL_law_21 : decode cL_law 21 = .ok (.iconst 5, 1) := by decide +kernel
theorem dL_law_22 : decode cL_law 22 = .ok (.isub, 1) := by decide +kernel
theorem dL_law_23 : decode cL_law 23 = .ok (.if_icmp .gt 1046, 3) := by decide +kernel
theorem dL_law_26 : decode cL_law 26 = .ok (.aload_n 0, 1) := by decide +kernel
theorem dL_law_27 : decode cL_law 27 = .ok (.iload_n 3, 1) := by decide +kernel
theorem dL_law_28 : decode cL_law 28 = .ok (.iaload, 1) := by decide +kernel
theorem dL_law_29 : decode cL_law 29 = .ok (.bipush 31, 2) := by decide +kernel
theorem dL_law_31 : decode cL_law 31 = .ok (.iand, 1) := by decide +kernel
theorem dL_law_32 : decode cL_law 32 = .ok (.tableswitch 1031 0 28 #[132, 165, 198, 221, 254, 307, 330, 363, 386, 399, 422, 445, 470, 483, 496, 509, 522, 575, 598, 631, 664, 717, 770, 803, 866, 919, 942, 965, 1008], 132) := by decide +kernel
theorem dL_law_164 : decode cL_law 164 = .ok (.aload_n 1, 1) := by decide +kernel
theorem dL_law_165 : decode cL_law 165 = .ok (.aload_n 0, 1) := by decide +kernel
theorem dL_law_166 : decode cL_law 166 = .ok (.iload_n 3, 1) := by decide +kernel
theorem dL_law_167 : decode cL_law 167 = .ok (.iconst 1, 1) := by decide +kernel
theorem dL_law_168 : decode cL_law 168 = .ok (.iadd, 1) := by decide +kernel
theorem dL_law_169 : decode cL_law 169 = .ok (.iaload, 1) := by decide +kernel
theorem dL_law_170 : decode cL_law 170 = .ok (.aload_n 0, 1) := by decide +kernel
theorem dL_law_171 : decode cL_law 171 = .ok (.iload_n 3, 1) := by decide +kernel
theorem dL_law_172 : decode cL_law 172 = .ok (.iconst 2, 1) := by decide +kernel
theorem dL_law_173 : decode cL_law 173 = .ok (.iadd, 1) := by decide +kernel
theorem dL_law_174 : decode cL_law 174 = .ok (.iaload, 1) := by decide +kernel
theorem dL_law_175 : decode cL_law 175 = .ok (.invokevirtual 13, 3) := by decide +kernel
theorem dL_law_178 : decode cL_law 178 = .ok (.aload_n 2, 1) := by decide +kernel
theorem dL_law_179 : decode cL_law 179 = .ok (.aload_n 0, 1) := by decide +kernel
theorem dL_law_180 : decode cL_law 180 = .ok (.iload_n 3, 1) := by decide +kernel
theorem dL_law_181 : decode cL_law 181 = .ok (.iconst 1, 1) := by decide +kernel
theorem dL_law_182 : decode cL_law 182 = .ok (.iadd, 1) := by decide +kernel
theorem dL_law_183 : decode cL_law 183 = .ok (.iaload, 1) := by decide +kernel
theorem dL_law_184 : decode cL_law 184 = .ok (.aload_n 0, 1) := by decide +kernel
theorem dL_law_185 : decode cL_law 185 = .ok (.iload_n 3, 1) := by decide +kernel
theorem dL_law_186 : decode cL_law 186 = .ok (.iconst 2, 1) := by decide +kernel
theorem dL_law_187 : decode cL_law 187 = .ok (.iadd, 1) := by decide +kernel
theorem dL_law_188 : decode cL_law 188 = .ok (.iaload, 1) := by decide +kernel
theorem dL_law_189 : decode cL_law 189 = .ok (.invokevirtual 17, 3) := by decide +kernel
theorem dL_law_192 : decode cL_law 192 = .ok (.if_icmp .eq 871, 3) := by decide +kernel
theorem dL_law_195 : decode cL_law 195 = .ok (.iconst 0, 1) := by decide +kernel
theorem dL_law_196 : decode cL_law 196 = .ok (.ireturn, 1) := by decide +kernel
theorem dL_law_197 : decode cL_law 197 = .ok (.aload_n 1, 1) := by decide +kernel
theorem dL_law_198 : decode cL_law 198 = .ok (.aload_n 0, 1) := by decide +kernel
theorem dL_law_199 : decode cL_law 199 = .ok (.iload_n 3, 1) := by decide +kernel
theorem dL_law_200 : decode cL_law 200 = .ok (.iconst 1, 1) := by decide +kernel
theorem dL_law_201 : decode cL_law 201 = .ok (.iadd, 1) := by decide +kernel
theorem dL_law_202 : decode cL_law 202 = .ok (.iaload, 1) := by decide +kernel
theorem dL_law_203 : decode cL_law 203 = .ok (.aload_n 0, 1) := by decide +kernel
theorem dL_law_204 : decode cL_law 204 = .ok (.iload_n 3, 1) := by decide +kernel
theorem dL_law_205 : decode cL_law 205 = .ok (.iconst 2, 1) := by decide +kernel
theorem dL_law_206 : decode cL_law 206 = .ok (.iadd, 1) := by decide +kernel
theorem dL_law_207 : decode cL_law 207 = .ok (.iaload, 1) := by decide +kernel
theorem dL_law_208 : decode cL_law 208 = .ok (.invokevirtual 18, 3) := by decide +kernel
theorem dL_law_211 : decode cL_law 211 = .ok (.aload_n 2, 1) := by decide +kernel
theorem dL_law_212 : decode cL_law 212 = .ok (.aload_n 0, 1) := by decide +kernel
theorem dL_law_213 : decode cL_law 213 = .ok (.iload_n 3, 1) := by decide +kernel
theorem dL_law_214 : decode cL_law 214 = .ok (.iconst 1, 1) := by decide +kernel
theorem dL_law_215 : decode cL_law 215 = .ok (.iadd, 1) := by decide +kernel
theorem dL_law_216 : decode cL_law 216 = .ok (.iaload, 1) := by decide +kernel
theorem dL_law_217 : decode cL_law 217 = .ok (.aload_n 0, 1) := by decide +kernel
theorem dL_law_218 : decode cL_law 218 = .ok (.iload_n 3, 1) := by decide +kernel
theorem dL_law_219 : decode cL_law 219 = .ok (.iconst 2, 1) := by decide +kernel
theorem dL_law_220 : decode cL_law 220 = .ok (.iadd, 1) := by decide +kernel
theorem dL_law_221 : decode cL_law 221 = .ok (.iaload, 1) := by decide +kernel
theorem dL_law_222 : decode cL_law 222 = .ok (.invokevirtual 21, 3) := by decide +kernel
theorem dL_law_225 : decode cL_law 225 = .ok (.if_icmp .eq 838, 3) := by decide +kernel
theorem dL_law_228 : decode cL_law 228 = .ok (.iconst 0, 1) := by decide +kernel
theorem dL_law_229 : decode cL_law 229 = .ok (.ireturn, 1) := by decide +kernel
theorem dL_law_230 : decode cL_law 230 = .ok (.aload_n 1, 1) := by decide +kernel
theorem dL_law_231 : decode cL_law 231 = .ok (.aload_n 0, 1) := by decide +kernel
theorem dL_law_232 : decode cL_law 232 = .ok (.iload_n 3, 1) := by decide +kernel
theorem dL_law_233 : decode cL_law 233 = .ok (.iconst 1, 1) := by decide +kernel
theorem dL_law_234 : decode cL_law 234 = .ok (.iadd, 1) := by decide +kernel
theorem dL_law_235 : decode cL_law 235 = .ok (.iaload, 1) := by decide +kernel
theorem dL_law_236 : decode cL_law 236 = .ok (.invokevirtual 22, 3) := by decide +kernel
theorem dL_law_239 : decode cL_law 239 = .ok (.aload_n 2, 1) := by decide +kernel
theorem dL_law_240 : decode cL_law 240 = .ok (.aload_n 0, 1) := by decide +kernel
theorem dL_law_241 : decode cL_law 241 = .ok (.iload_n 3, 1) := by decide +kernel
theorem dL_law_242 : decode cL_law 242 = .ok (.iconst 1, 1) := by decide +kernel
theorem dL_law_243 : decode cL_law 243 = .ok (.iadd, 1) := by decide +kernel
theorem dL_law_244 : decode cL_law 244 = .ok (.iaload, 1) := by decide +kernel
theorem dL_law_245 : decode cL_law 245 = .ok (.invokevirtual 26, 3) := by decide +kernel
theorem dL_law_248 : decode cL_law 248 = .ok (.if_icmp .eq 815, 3) := by decide +kernel
theorem dL_law_251 : decode cL_law 251 = .ok (.iconst 0, 1) := by decide +kernel
theorem dL_law_252 : decode cL_law 252 = .ok (.ireturn, 1) := by decide +kernel
theorem dL_law_253 : decode cL_law 253 = .ok (.aload_n 1, 1) := by decide +kernel
theorem dL_law_254 : decode cL_law 254 = .ok (.aload_n 0, 1) := by decide +kernel
theorem dL_law_255 : decode cL_law 255 = .ok (.iload_n 3, 1) := by decide +kernel
theorem dL_law_256 : decode cL_law 256 = .ok (.iconst 1, 1) := by decide +kernel
theorem dL_law_257 : decode cL_law 257 = .ok (.iadd, 1) := by decide +kernel
theorem dL_law_258 : decode cL_law 258 = .ok (.iaload, 1) := by decide +kernel
theorem dL_law_259 : decode cL_law 259 = .ok (.aload_n 0, 1) := by decide +kernel
theorem dL_law_260 : decode cL_law 260 = .ok (.iload_n 3, 1) := by decide +kernel
theorem dL_law_261 : decode cL_law 261 = .ok (.iconst 2, 1) := by decide +kernel
theorem dL_law_262 : decode cL_law 262 = .ok (.iadd, 1) := by decide +kernel
theorem dL_law_263 : decode cL_law 263 = .ok (.iaload, 1) := by decide +kernel
theorem dL_law_264 : decode cL_law 264 = .ok (.invokevirtual 27, 3) := by decide +kernel
theorem dL_law_267 : decode cL_law 267 = .ok (.aload_n 2, 1) := by decide +kernel
theorem dL_law_268 : decode cL_law 268 = .ok (.aload_n 0, 1) := by decide +kernel
theorem dL_law_269 : decode cL_law 269 = .ok (.iload_n 3, 1) := by decide +kernel
theorem dL_law_270 : decode cL_law 270 = .ok (.iconst 1, 1) := by decide +kernel
theorem dL_law_271 : decode cL_law 271 = .ok (.iadd, 1) := by decide +kernel
theorem dL_law_272 : decode cL_law 272 = .ok (.iaload, 1) := by decide +kernel
theorem dL_law_273 : decode cL_law 273 = .ok (.aload_n 0, 1) := by decide +kernel
theorem dL_law_274 : decode cL_law 274 = .ok (.iload_n 3, 1) := by decide +kernel
theorem dL_law_275 : decode cL_law 275 = .ok (.iconst 2, 1) := by decide +kernel
theorem dL_law_276 : decode cL_law 276 = .ok (.iadd, 1) := by decide +kernel
theorem dL_law_277 : decode cL_law 277 = .ok (.iaload, 1) := by decide +kernel
theorem dL_law_278 : decode cL_law 278 = .ok (.invokevirtual 30, 3) := by decide +kernel
theorem dL_law_281 : decode cL_law 281 = .ok (.if_icmp .eq 782, 3) := by decide +kernel
theorem dL_law_284 : decode cL_law 284 = .ok (.iconst 0, 1) := by decide +kernel
theorem dL_law_285 : decode cL_law 285 = .ok (.ireturn, 1) := by decide +kernel
theorem dL_law_286 : decode cL_law 286 = .ok (.aload_n 1, 1) := by decide +kernel
theorem dL_law_287 : decode cL_law 287 = .ok (.aload_n 0, 1) := by decide +kernel
theorem dL_law_288 : decode cL_law 288 = .ok (.iload_n 3, 1) := by decide +kernel
theorem dL_law_289 : decode cL_law 289 = .ok (.iconst 1, 1) := by decide +kernel
theorem dL_law_290 : decode cL_law 290 = .ok (.iadd, 1) := by decide +kernel
theorem dL_law_291 : decode cL_law 291 = .ok (.iaload, 1) := by decide +kernel
theorem dL_law_292 : decode cL_law 292 = .ok (.aload_n 0, 1) := by decide +kernel
theorem dL_law_293 : decode cL_law 293 = .ok (.iload_n 3, 1) := by decide +kernel
theorem dL_law_294 : decode cL_law 294 = .ok (.iconst 2, 1) := by decide +kernel
theorem dL_law_295 : decode cL_law 295 = .ok (.iadd, 1) := by decide +kernel
theorem dL_law_296 : decode cL_law 296 = .ok (.iaload, 1) := by decide +kernel
theorem dL_law_297 : decode cL_law 297 = .ok (.aload_n 0, 1) := by decide +kernel
theorem dL_law_298 : decode cL_law 298 = .ok (.iload_n 3, 1) := by decide +kernel
theorem dL_law_299 : decode cL_law 299 = .ok (.iconst 3, 1) := by decide +kernel
theorem dL_law_300 : decode cL_law 300 = .ok (.iadd, 1) := by decide +kernel
theorem dL_law_301 : decode cL_law 301 = .ok (.iaload, 1) := by decide +kernel
theorem dL_law_302 : decode cL_law 302 = .ok (.aload_n 0, 1) := by decide +kernel
theorem dL_law_303 : decode cL_law 303 = .ok (.iload_n 3, 1) := by decide +kernel
theorem dL_law_304 : decode cL_law 304 = .ok (.iconst 4, 1) := by decide +kernel
theorem dL_law_305 : decode cL_law 305 = .ok (.iadd, 1) := by decide +kernel
theorem dL_law_306 : decode cL_law 306 = .ok (.iaload, 1) := by decide +kernel
theorem dL_law_307 : decode cL_law 307 = .ok (.invokevirtual 31, 3) := by decide +kernel
theorem dL_law_310 : decode cL_law 310 = .ok (.aload_n 2, 1) := by decide +kernel
theorem dL_law_311 : decode cL_law 311 = .ok (.aload_n 0, 1) := by decide +kernel
theorem dL_law_312 : decode cL_law 312 = .ok (.iload_n 3, 1) := by decide +kernel
theorem dL_law_313 : decode cL_law 313 = .ok (.iconst 1, 1) := by decide +kernel
theorem dL_law_314 : decode cL_law 314 = .ok (.iadd, 1) := by decide +kernel
theorem dL_law_315 : decode cL_law 315 = .ok (.iaload, 1) := by decide +kernel
theorem dL_law_316 : decode cL_law 316 = .ok (.aload_n 0, 1) := by decide +kernel
theorem dL_law_317 : decode cL_law 317 = .ok (.iload_n 3, 1) := by decide +kernel
theorem dL_law_318 : decode cL_law 318 = .ok (.iconst 2, 1) := by decide +kernel
theorem dL_law_319 : decode cL_law 319 = .ok (.iadd, 1) := by decide +kernel
theorem dL_law_320 : decode cL_law 320 = .ok (.iaload, 1) := by decide +kernel
theorem dL_law_321 : decode cL_law 321 = .ok (.aload_n 0, 1) := by decide +kernel
theorem dL_law_322 : decode cL_law 322 = .ok (.iload_n 3, 1) := by decide +kernel
theorem dL_law_323 : decode cL_law 323 = .ok (.iconst 3, 1) := by decide +kernel
theorem dL_law_324 : decode cL_law 324 = .ok (.iadd, 1) := by decide +kernel
theorem dL_law_325 : decode cL_law 325 = .ok (.iaload, 1) := by decide +kernel
theorem dL_law_326 : decode cL_law 326 = .ok (.aload_n 0, 1) := by decide +kernel
theorem dL_law_327 : decode cL_law 327 = .ok (.iload_n 3, 1) := by decide +kernel
theorem dL_law_328 : decode cL_law 328 = .ok (.iconst 4, 1) := by decide +kernel
theorem dL_law_329 : decode cL_law 329 = .ok (.iadd, 1) := by decide +kernel
theorem dL_law_330 : decode cL_law 330 = .ok (.iaload, 1) := by decide +kernel
theorem dL_law_331 : decode cL_law 331 = .ok (.invokevirtual 35, 3) := by decide +kernel
theorem dL_law_334 : decode cL_law 334 = .ok (.if_icmp .eq 729, 3) := by decide +kernel
theorem dL_law_337 : decode cL_law 337 = .ok (.iconst 0, 1) := by decide +kernel
theorem dL_law_338 : decode cL_law 338 = .ok (.ireturn, 1) := by decide +kernel
theorem dL_law_339 : decode cL_law 339 = .ok (.aload_n 1, 1) := by decide +kernel
theorem dL_law_340 : decode cL_law 340 = .ok (.aload_n 0, 1) := by decide +kernel
theorem dL_law_341 : decode cL_law 341 = .ok (.iload_n 3, 1) := by decide +kernel
theorem dL_law_342 : decode cL_law 342 = .ok (.iconst 1, 1) := by decide +kernel
theorem dL_law_343 : decode cL_law 343 = .ok (.iadd, 1) := by decide +kernel
theorem dL_law_344 : decode cL_law 344 = .ok (.iaload, 1) := by decide +kernel
theorem dL_law_345 : decode cL_law 345 = .ok (.invokevirtual 36, 3) := by decide +kernel
theorem dL_law_348 : decode cL_law 348 = .ok (.aload_n 2, 1) := by decide +kernel
theorem dL_law_349 : decode cL_law 349 = .ok (.aload_n 0, 1) := by decide +kernel
theorem dL_law_350 : decode cL_law 350 = .ok (.iload_n 3, 1) := by decide +kernel
theorem dL_law_351 : decode cL_law 351 = .ok (.iconst 1, 1) := by decide +kernel
theorem dL_law_352 : decode cL_law 352 = .ok (.iadd, 1) := by decide +kernel
theorem dL_law_353 : decode cL_law 353 = .ok (.iaload, 1) := by decide +kernel
theorem dL_law_354 : decode cL_law 354 = .ok (.invokevirtual 39, 3) := by decide +kernel
theorem dL_law_357 : decode cL_law 357 = .ok (.if_icmp .eq 706, 3) := by decide +kernel
theorem dL_law_360 : decode cL_law 360 = .ok (.iconst 0, 1) := by decide +kernel
theorem dL_law_361 : decode cL_law 361 = .ok (.ireturn, 1) := by decide +kernel
theorem dL_law_362 : decode cL_law 362 = .ok (.aload_n 1, 1) := by decide +kernel
theorem dL_law_363 : decode cL_law 363 = .ok (.aload_n 0, 1) := by decide +kernel
theorem dL_law_364 : decode cL_law 364 = .ok (.iload_n 3, 1) := by decide +kernel
theorem dL_law_365 : decode cL_law 365 = .ok (.iconst 1, 1) := by decide +kernel
theorem dL_law_366 : decode cL_law 366 = .ok (.iadd, 1) := by decide +kernel
theorem dL_law_367 : decode cL_law 367 = .ok (.iaload, 1) := by decide +kernel
theorem dL_law_368 : decode cL_law 368 = .ok (.aload_n 0, 1) := by decide +kernel
theorem dL_law_369 : decode cL_law 369 = .ok (.iload_n 3, 1) := by decide +kernel
theorem dL_law_370 : decode cL_law 370 = .ok (.iconst 2, 1) := by decide +kernel
theorem dL_law_371 : decode cL_law 371 = .ok (.iadd, 1) := by decide +kernel
theorem dL_law_372 : decode cL_law 372 = .ok (.iaload, 1) := by decide +kernel
theorem dL_law_373 : decode cL_law 373 = .ok (.invokevirtual 40, 3) := by decide +kernel
theorem dL_law_376 : decode cL_law 376 = .ok (.aload_n 2, 1) := by decide +kernel
theorem dL_law_377 : decode cL_law 377 = .ok (.aload_n 0, 1) := by decide +kernel
theorem dL_law_378 : decode cL_law 378 = .ok (.iload_n 3, 1) := by decide +kernel
theorem dL_law_379 : decode cL_law 379 = .ok (.iconst 1, 1) := by decide +kernel
theorem dL_law_380 : decode cL_law 380 = .ok (.iadd, 1) := by decide +kernel
theorem dL_law_381 : decode cL_law 381 = .ok (.iaload, 1) := by decide +kernel
theorem dL_law_382 : decode cL_law 382 = .ok (.aload_n 0, 1) := by decide +kernel
theorem dL_law_383 : decode cL_law 383 = .ok (.iload_n 3, 1) := by decide +kernel
theorem dL_law_384 : decode cL_law 384 = .ok (.iconst 2, 1) := by decide +kernel
theorem dL_law_385 : decode cL_law 385 = .ok (.iadd, 1) := by decide +kernel
theorem dL_law_386 : decode cL_law 386 = .ok (.iaload, 1) := by decide +kernel
theorem dL_law_387 : decode cL_law 387 = .ok (.invokevirtual 43, 3) := by decide +kernel
theorem dL_law_390 : decode cL_law 390 = .ok (.if_icmp .eq 673, 3) := by decide +kernel
theorem dL_law_393 : decode cL_law 393 = .ok (.iconst 0, 1) := by decide +kernel
theorem dL_law_394 : decode cL_law 394 = .ok (.ireturn, 1) := by decide +kernel
theorem dL_law_395 : decode cL_law 395 = .ok (.aload_n 1, 1) := by decide +kernel
theorem dL_law_396 : decode cL_law 396 = .ok (.aload_n 0, 1) := by decide +kernel
theorem dL_law_397 : decode cL_law 397 = .ok (.iload_n 3, 1) := by decide +kernel
theorem dL_law_398 : decode cL_law 398 = .ok (.iconst 1, 1) := by decide +kernel
theorem dL_law_399 : decode cL_law 399 = .ok (.iadd, 1) := by decide +kernel
theorem dL_law_400 : decode cL_law 400 = .ok (.iaload, 1) := by decide +kernel
theorem dL_law_401 : decode cL_law 401 = .ok (.invokevirtual 44, 3) := by decide +kernel
theorem dL_law_404 : decode cL_law 404 = .ok (.aload_n 2, 1) := by decide +kernel
theorem dL_law_405 : decode cL_law 405 = .ok (.aload_n 0, 1) := by decide +kernel
theorem dL_law_406 : decode cL_law 406 = .ok (.iload_n 3, 1) := by decide +kernel
theorem dL_law_407 : decode cL_law 407 = .ok (.iconst 1, 1) := by decide +kernel
theorem dL_law_408 : decode cL_law 408 = .ok (.iadd, 1) := by decide +kernel
theorem dL_law_409 : decode cL_law 409 = .ok (.iaload, 1) := by decide +kernel
theorem dL_law_410 : decode cL_law 410 = .ok (.invokevirtual 47, 3) := by decide +kernel
theorem dL_law_413 : decode cL_law 413 = .ok (.if_icmp .eq 650, 3) := by decide +kernel
theorem dL_law_416 : decode cL_law 416 = .ok (.iconst 0, 1) := by decide +kernel
theorem dL_law_417 : decode cL_law 417 = .ok (.ireturn, 1) := by decide +kernel
theorem dL_law_418 : decode cL_law 418 = .ok (.aload_n 1, 1) := by decide +kernel
theorem dL_law_419 : decode cL_law 419 = .ok (.invokevirtual 48, 3) := by decide +kernel
theorem dL_law_422 : decode cL_law 422 = .ok (.aload_n 2, 1) := by decide +kernel
theorem dL_law_423 : decode cL_law 423 = .ok (.invokevirtual 52, 3) := by decide +kernel
theorem dL_law_426 : decode cL_law 426 = .ok (.if_icmp .eq 637, 3) := by decide +kernel
theorem dL_law_429 : decode cL_law 429 = .ok (.iconst 0, 1) := by decide +kernel
theorem dL_law_430 : decode cL_law 430 = .ok (.ireturn, 1) := by decide +kernel
theorem dL_law_431 : decode cL_law 431 = .ok (.aload_n 1, 1) := by decide +kernel
theorem dL_law_432 : decode cL_law 432 = .ok (.aload_n 0, 1) := by decide +kernel
theorem dL_law_433 : decode cL_law 433 = .ok (.iload_n 3, 1) := by decide +kernel
theorem dL_law_434 : decode cL_law 434 = .ok (.iconst 1, 1) := by decide +kernel
theorem dL_law_435 : decode cL_law 435 = .ok (.iadd, 1) := by decide +kernel
theorem dL_law_436 : decode cL_law 436 = .ok (.iaload, 1) := by decide +kernel
theorem dL_law_437 : decode cL_law 437 = .ok (.invokevirtual 53, 3) := by decide +kernel
theorem dL_law_440 : decode cL_law 440 = .ok (.aload_n 2, 1) := by decide +kernel
theorem dL_law_441 : decode cL_law 441 = .ok (.aload_n 0, 1) := by decide +kernel
theorem dL_law_442 : decode cL_law 442 = .ok (.iload_n 3, 1) := by decide +kernel
theorem dL_law_443 : decode cL_law 443 = .ok (.iconst 1, 1) := by decide +kernel
theorem dL_law_444 : decode cL_law 444 = .ok (.iadd, 1) := by decide +kernel
theorem dL_law_445 : decode cL_law 445 = .ok (.iaload, 1) := by decide +kernel
theorem dL_law_446 : decode cL_law 446 = .ok (.invokevirtual 56, 3) := by decide +kernel
theorem dL_law_449 : decode cL_law 449 = .ok (.if_icmp .eq 614, 3) := by decide +kernel
theorem dL_law_452 : decode cL_law 452 = .ok (.iconst 0, 1) := by decide +kernel
theorem dL_law_453 : decode cL_law 453 = .ok (.ireturn, 1) := by decide +kernel
theorem dL_law_454 : decode cL_law 454 = .ok (.aload_n 1, 1) := by decide +kernel
theorem dL_law_455 : decode cL_law 455 = .ok (.aload_n 0, 1) := by decide +kernel
theorem dL_law_456 : decode cL_law 456 = .ok (.iload_n 3, 1) := by decide +kernel
theorem dL_law_457 : decode cL_law 457 = .ok (.iconst 1, 1) := by decide +kernel
theorem dL_law_458 : decode cL_law 458 = .ok (.iadd, 1) := by decide +kernel
theorem dL_law_459 : decode cL_law 459 = .ok (.iaload, 1) := by decide +kernel
theorem dL_law_460 : decode cL_law 460 = .ok (.invokevirtual 57, 3) := by decide +kernel
theorem dL_law_463 : decode cL_law 463 = .ok (.aload_n 2, 1) := by decide +kernel
theorem dL_law_464 : decode cL_law 464 = .ok (.aload_n 0, 1) := by decide +kernel
theorem dL_law_465 : decode cL_law 465 = .ok (.iload_n 3, 1) := by decide +kernel
theorem dL_law_466 : decode cL_law 466 = .ok (.iconst 1, 1) := by decide +kernel
theorem dL_law_467 : decode cL_law 467 = .ok (.iadd, 1) := by decide +kernel
theorem dL_law_468 : decode cL_law 468 = .ok (.iaload, 1) := by decide +kernel
theorem dL_law_469 : decode cL_law 469 = .ok (.invokevirtual 60, 3) := by decide +kernel
theorem dL_law_472 : decode cL_law 472 = .ok (.if_icmp .eq 591, 3) := by decide +kernel
theorem dL_law_475 : decode cL_law 475 = .ok (.iconst 0, 1) := by decide +kernel
theorem dL_law_476 : decode cL_law 476 = .ok (.ireturn, 1) := by decide +kernel
theorem dL_law_477 : decode cL_law 477 = .ok (.aload_n 1, 1) := by decide +kernel
theorem dL_law_478 : decode cL_law 478 = .ok (.aload_n 0, 1) := by decide +kernel
theorem dL_law_479 : decode cL_law 479 = .ok (.iload_n 3, 1) := by decide +kernel
theorem dL_law_480 : decode cL_law 480 = .ok (.iconst 1, 1) := by decide +kernel
theorem dL_law_481 : decode cL_law 481 = .ok (.iadd, 1) := by decide +kernel
theorem dL_law_482 : decode cL_law 482 = .ok (.iaload, 1) := by decide +kernel
theorem dL_law_483 : decode cL_law 483 = .ok (.i2c, 1) := by decide +kernel
theorem dL_law_484 : decode cL_law 484 = .ok (.invokevirtual 61, 3) := by decide +kernel
theorem dL_law_487 : decode cL_law 487 = .ok (.aload_n 2, 1) := by decide +kernel
theorem dL_law_488 : decode cL_law 488 = .ok (.aload_n 0, 1) := by decide +kernel
theorem dL_law_489 : decode cL_law 489 = .ok (.iload_n 3, 1) := by decide +kernel
theorem dL_law_490 : decode cL_law 490 = .ok (.iconst 1, 1) := by decide +kernel
theorem dL_law_491 : decode cL_law 491 = .ok (.iadd, 1) := by decide +kernel
theorem dL_law_492 : decode cL_law 492 = .ok (.iaload, 1) := by decide +kernel
theorem dL_law_493 : decode cL_law 493 = .ok (.i2c, 1) := by decide +kernel
theorem dL_law_494 : decode cL_law 494 = .ok (.invokevirtual 65, 3) := by decide +kernel
theorem dL_law_497 : decode cL_law 497 = .ok (.if_icmp .eq 566, 3) := by decide +kernel
theorem dL_law_500 : decode cL_law 500 = .ok (.iconst 0, 1) := by decide +kernel
theorem dL_law_501 : decode cL_law 501 = .ok (.ireturn, 1) := by decide +kernel
theorem dL_law_502 : decode cL_law 502 = .ok (.aload_n 1, 1) := by decide +kernel
theorem dL_law_503 : decode cL_law 503 = .ok (.invokevirtual 66, 3) := by decide +kernel
theorem dL_law_506 : decode cL_law 506 = .ok (.aload_n 2, 1) := by decide +kernel
theorem dL_law_507 : decode cL_law 507 = .ok (.invokevirtual 69, 3) := by decide +kernel
theorem dL_law_510 : decode cL_law 510 = .ok (.if_icmp .eq 553, 3) := by decide +kernel
theorem dL_law_513 : decode cL_law 513 = .ok (.iconst 0, 1) := by decide +kernel
theorem dL_law_514 : decode cL_law 514 = .ok (.ireturn, 1) := by decide +kernel
theorem dL_law_515 : decode cL_law 515 = .ok (.aload_n 1, 1) := by decide +kernel
theorem dL_law_516 : decode cL_law 516 = .ok (.invokevirtual 70, 3) := by decide +kernel
theorem dL_law_519 : decode cL_law 519 = .ok (.aload_n 2, 1) := by decide +kernel
theorem dL_law_520 : decode cL_law 520 = .ok (.invokevirtual 73, 3) := by decide +kernel
theorem dL_law_523 : decode cL_law 523 = .ok (.if_icmp .eq 540, 3) := by decide +kernel
theorem dL_law_526 : decode cL_law 526 = .ok (.iconst 0, 1) := by decide +kernel
theorem dL_law_527 : decode cL_law 527 = .ok (.ireturn, 1) := by decide +kernel
theorem dL_law_528 : decode cL_law 528 = .ok (.aload_n 1, 1) := by decide +kernel
theorem dL_law_529 : decode cL_law 529 = .ok (.invokevirtual 74, 3) := by decide +kernel
theorem dL_law_532 : decode cL_law 532 = .ok (.aload_n 2, 1) := by decide +kernel
theorem dL_law_533 : decode cL_law 533 = .ok (.invokevirtual 77, 3) := by decide +kernel
theorem dL_law_536 : decode cL_law 536 = .ok (.if_icmp .eq 527, 3) := by decide +kernel
theorem dL_law_539 : decode cL_law 539 = .ok (.iconst 0, 1) := by decide +kernel
theorem dL_law_540 : decode cL_law 540 = .ok (.ireturn, 1) := by decide +kernel
theorem dL_law_541 : decode cL_law 541 = .ok (.aload_n 1, 1) := by decide +kernel
theorem dL_law_542 : decode cL_law 542 = .ok (.invokevirtual 78, 3) := by decide +kernel
theorem dL_law_545 : decode cL_law 545 = .ok (.aload_n 2, 1) := by decide +kernel
theorem dL_law_546 : decode cL_law 546 = .ok (.invokevirtual 81, 3) := by decide +kernel
theorem dL_law_549 : decode cL_law 549 = .ok (.if_icmp .eq 514, 3) := by decide +kernel
theorem dL_law_552 : decode cL_law 552 = .ok (.iconst 0, 1) := by decide +kernel
theorem dL_law_553 : decode cL_law 553 = .ok (.ireturn, 1) := by decide +kernel
theorem dL_law_554 : decode cL_law 554 = .ok (.aload_n 1, 1) := by decide +kernel
theorem dL_law_555 : decode cL_law 555 = .ok (.aload_n 0, 1) := by decide +kernel
theorem dL_law_556 : decode cL_law 556 = .ok (.iload_n 3, 1) := by decide +kernel
theorem dL_law_557 : decode cL_law 557 = .ok (.iconst 1, 1) := by decide +kernel
theorem dL_law_558 : decode cL_law 558 = .ok (.iadd, 1) := by decide +kernel
theorem dL_law_559 : decode cL_law 559 = .ok (.iaload, 1) := by decide +kernel
theorem dL_law_560 : decode cL_law 560 = .ok (.invokevirtual 82, 3) := by decide +kernel
theorem dL_law_563 : decode cL_law 563 = .ok (.f2d, 1) := by decide +kernel
theorem dL_law_564 : decode cL_law 564 = .ok (.dstore 4, 2) := by decide +kernel
theorem dL_law_566 : decode cL_law 566 = .ok (.aload_n 2, 1) := by decide +kernel
theorem dL_law_567 : decode cL_law 567 = .ok (.aload_n 0, 1) := by decide +kernel
theorem dL_law_568 : decode cL_law 568 = .ok (.iload_n 3, 1) := by decide +kernel
theorem dL_law_569 : decode cL_law 569 = .ok (.iconst 1, 1) := by decide +kernel
theorem dL_law_570 : decode cL_law 570 = .ok (.iadd, 1) := by decide +kernel
theorem dL_law_571 : decode cL_law 571 = .ok (.iaload, 1) := by decide +kernel
theorem dL_law_572 : decode cL_law 572 = .ok (.invokevirtual 86, 3) := by decide +kernel
theorem dL_law_575 : decode cL_law 575 = .ok (.f2d, 1) := by decide +kernel
theorem dL_law_576 : decode cL_law 576 = .ok (.dstore 6, 2) := by decide +kernel
theorem dL_law_578 : decode cL_law 578 = .ok (.dload 4, 2) := by decide +kernel
theorem dL_law_580 : decode cL_law 580 = .ok (.dload 6, 2) := by decide +kernel
theorem dL_law_582 : decode cL_law 582 = .ok (.dcmp .l, 1) := by decide +kernel
theorem dL_law_583 : decode cL_law 583 = .ok (.ifCond .eq 21, 3) := by decide +kernel
theorem dL_law_586 : decode cL_law 586 = .ok (.dload 4, 2) := by decide +kernel
theorem dL_law_588 : decode cL_law 588 = .ok (.dload 4, 2) := by decide +kernel
theorem dL_law_590 : decode cL_law 590 = .ok (.dcmp .l, 1) := by decide +kernel
theorem dL_law_591 : decode cL_law 591 = .ok (.ifCond .eq 11, 3) := by decide +kernel
theorem dL_law_594 : decode cL_law 594 = .ok (.dload 6, 2) := by decide +kernel
theorem dL_law_596 : decode cL_law 596 = .ok (.dload 6, 2) := by decide +kernel
theorem dL_law_598 : decode cL_law 598 = .ok (.dcmp .l, 1) := by decide +kernel
theorem dL_law_599 : decode cL_law 599 = .ok (.ifCond .ne 5, 3) := by decide +kernel
theorem dL_law_602 : decode cL_law 602 = .ok (.iconst 0, 1) := by decide +kernel
theorem dL_law_603 : decode cL_law 603 = .ok (.ireturn, 1) := by decide +kernel
theorem dL_law_604 : decode cL_law 604 = .ok (.goto 459, 3) := by decide +kernel
theorem dL_law_607 : decode cL_law 607 = .ok (.aload_n 1, 1) := by decide +kernel
theorem dL_law_608 : decode cL_law 608 = .ok (.aload_n 0, 1) := by decide +kernel
theorem dL_law_609 : decode cL_law 609 = .ok (.iload_n 3, 1) := by decide +kernel
theorem dL_law_610 : decode cL_law 610 = .ok (.iconst 1, 1) := by decide +kernel
theorem dL_law_611 : decode cL_law 611 = .ok (.iadd, 1) := by decide +kernel
theorem dL_law_612 : decode cL_law 612 = .ok (.iaload, 1) := by decide +kernel
theorem dL_law_613 : decode cL_law 613 = .ok (.invokevirtual 87, 3) := by decide +kernel
theorem dL_law_616 : decode cL_law 616 = .ok (.aload_n 2, 1) := by decide +kernel
theorem dL_law_617 : decode cL_law 617 = .ok (.aload_n 0, 1) := by decide +kernel
theorem dL_law_618 : decode cL_law 618 = .ok (.iload_n 3, 1) := by decide +kernel
theorem dL_law_619 : decode cL_law 619 = .ok (.iconst 1, 1) := by decide +kernel
theorem dL_law_620 : decode cL_law 620 = .ok (.iadd, 1) := by decide +kernel
theorem dL_law_621 : decode cL_law 621 = .ok (.iaload, 1) := by decide +kernel
theorem dL_law_622 : decode cL_law 622 = .ok (.invokevirtual 90, 3) := by decide +kernel
theorem dL_law_625 : decode cL_law 625 = .ok (.if_icmp .eq 438, 3) := by decide +kernel
theorem dL_law_628 : decode cL_law 628 = .ok (.iconst 0, 1) := by decide +kernel
theorem dL_law_629 : decode cL_law 629 = .ok (.ireturn, 1) := by decide +kernel
theorem dL_law_630 : decode cL_law 630 = .ok (.aload_n 1, 1) := by decide +kernel
theorem dL_law_631 : decode cL_law 631 = .ok (.aload_n 0, 1) := by decide +kernel
theorem dL_law_632 : decode cL_law 632 = .ok (.iload_n 3, 1) := by decide +kernel
theorem dL_law_633 : decode cL_law 633 = .ok (.iconst 1, 1) := by decide +kernel
theorem dL_law_634 : decode cL_law 634 = .ok (.iadd, 1) := by decide +kernel
theorem dL_law_635 : decode cL_law 635 = .ok (.iaload, 1) := by decide +kernel
theorem dL_law_636 : decode cL_law 636 = .ok (.aload_n 0, 1) := by decide +kernel
theorem dL_law_637 : decode cL_law 637 = .ok (.iload_n 3, 1) := by decide +kernel
theorem dL_law_638 : decode cL_law 638 = .ok (.iconst 2, 1) := by decide +kernel
theorem dL_law_639 : decode cL_law 639 = .ok (.iadd, 1) := by decide +kernel
theorem dL_law_640 : decode cL_law 640 = .ok (.iaload, 1) := by decide +kernel
theorem dL_law_641 : decode cL_law 641 = .ok (.invokevirtual 91, 3) := by decide +kernel
theorem dL_law_644 : decode cL_law 644 = .ok (.aload_n 2, 1) := by decide +kernel
theorem dL_law_645 : decode cL_law 645 = .ok (.aload_n 0, 1) := by decide +kernel
theorem dL_law_646 : decode cL_law 646 = .ok (.iload_n 3, 1) := by decide +kernel
theorem dL_law_647 : decode cL_law 647 = .ok (.iconst 1, 1) := by decide +kernel
theorem dL_law_648 : decode cL_law 648 = .ok (.iadd, 1) := by decide +kernel
theorem dL_law_649 : decode cL_law 649 = .ok (.iaload, 1) := by decide +kernel
theorem dL_law_650 : decode cL_law 650 = .ok (.aload_n 0, 1) := by decide +kernel
theorem dL_law_651 : decode cL_law 651 = .ok (.iload_n 3, 1) := by decide +kernel
theorem dL_law_652 : decode cL_law 652 = .ok (.iconst 2, 1) := by decide +kernel
theorem dL_law_653 : decode cL_law 653 = .ok (.iadd, 1) := by decide +kernel
theorem dL_law_654 : decode cL_law 654 = .ok (.iaload, 1) := by decide +kernel
theorem dL_law_655 : decode cL_law 655 = .ok (.invokevirtual 94, 3) := by decide +kernel
theorem dL_law_658 : decode cL_law 658 = .ok (.if_icmp .eq 405, 3) := by decide +kernel
theorem dL_law_661 : decode cL_law 661 = .ok (.iconst 0, 1) := by decide +kernel
theorem dL_law_662 : decode cL_law 662 = .ok (.ireturn, 1) := by decide +kernel
theorem dL_law_663 : decode cL_law 663 = .ok (.aload_n 1, 1) := by decide +kernel
theorem dL_law_664 : decode cL_law 664 = .ok (.aload_n 0, 1) := by decide +kernel
theorem dL_law_665 : decode cL_law 665 = .ok (.iload_n 3, 1) := by decide +kernel
theorem dL_law_666 : decode cL_law 666 = .ok (.iconst 1, 1) := by decide +kernel
theorem dL_law_667 : decode cL_law 667 = .ok (.iadd, 1) := by decide +kernel
theorem dL_law_668 : decode cL_law 668 = .ok (.iaload, 1) := by decide +kernel
theorem dL_law_669 : decode cL_law 669 = .ok (.aload_n 0, 1) := by decide +kernel
theorem dL_law_670 : decode cL_law 670 = .ok (.iload_n 3, 1) := by decide +kernel
theorem dL_law_671 : decode cL_law 671 = .ok (.iconst 2, 1) := by decide +kernel
theorem dL_law_672 : decode cL_law 672 = .ok (.iadd, 1) := by decide +kernel
theorem dL_law_673 : decode cL_law 673 = .ok (.iaload, 1) := by decide +kernel
theorem dL_law_674 : decode cL_law 674 = .ok (.invokevirtual 95, 3) := by decide +kernel
theorem dL_law_677 : decode cL_law 677 = .ok (.aload_n 2, 1) := by decide +kernel
theorem dL_law_678 : decode cL_law 678 = .ok (.aload_n 0, 1) := by decide +kernel
theorem dL_law_679 : decode cL_law 679 = .ok (.iload_n 3, 1) := by decide +kernel
theorem dL_law_680 : decode cL_law 680 = .ok (.iconst 1, 1) := by decide +kernel
theorem dL_law_681 : decode cL_law 681 = .ok (.iadd, 1) := by decide +kernel
theorem dL_law_682 : decode cL_law 682 = .ok (.iaload, 1) := by decide +kernel
theorem dL_law_683 : decode cL_law 683 = .ok (.aload_n 0, 1) := by decide +kernel
theorem dL_law_684 : decode cL_law 684 = .ok (.iload_n 3, 1) := by decide +kernel
theorem dL_law_685 : decode cL_law 685 = .ok (.iconst 2, 1) := by decide +kernel
theorem dL_law_686 : decode cL_law 686 = .ok (.iadd, 1) := by decide +kernel
theorem dL_law_687 : decode cL_law 687 = .ok (.iaload, 1) := by decide +kernel
theorem dL_law_688 : decode cL_law 688 = .ok (.invokevirtual 98, 3) := by decide +kernel
theorem dL_law_691 : decode cL_law 691 = .ok (.if_icmp .eq 372, 3) := by decide +kernel
theorem dL_law_694 : decode cL_law 694 = .ok (.iconst 0, 1) := by decide +kernel
theorem dL_law_695 : decode cL_law 695 = .ok (.ireturn, 1) := by decide +kernel
theorem dL_law_696 : decode cL_law 696 = .ok (.aload_n 1, 1) := by decide +kernel
theorem dL_law_697 : decode cL_law 697 = .ok (.aload_n 0, 1) := by decide +kernel
theorem dL_law_698 : decode cL_law 698 = .ok (.iload_n 3, 1) := by decide +kernel
theorem dL_law_699 : decode cL_law 699 = .ok (.iconst 1, 1) := by decide +kernel
theorem dL_law_700 : decode cL_law 700 = .ok (.iadd, 1) := by decide +kernel
theorem dL_law_701 : decode cL_law 701 = .ok (.iaload, 1) := by decide +kernel
theorem dL_law_702 : decode cL_law 702 = .ok (.invokevirtual 99, 3) := by decide +kernel
theorem dL_law_705 : decode cL_law 705 = .ok (.f2d, 1) := by decide +kernel
theorem dL_law_706 : decode cL_law 706 = .ok (.dstore 4, 2) := by decide +kernel
theorem dL_law_708 : decode cL_law 708 = .ok (.aload_n 2, 1) := by decide +kernel
theorem dL_law_709 : decode cL_law 709 = .ok (.aload_n 0, 1) := by decide +kernel
theorem dL_law_710 : decode cL_law 710 = .ok (.iload_n 3, 1) := by decide +kernel
theorem dL_law_711 : decode cL_law 711 = .ok (.iconst 1, 1) := by decide +kernel
theorem dL_law_712 : decode cL_law 712 = .ok (.iadd, 1) := by decide +kernel
theorem dL_law_713 : decode cL_law 713 = .ok (.iaload, 1) := by decide +kernel
theorem dL_law_714 : decode cL_law 714 = .ok (.invokevirtual 102, 3) := by decide +kernel
theorem dL_law_717 : decode cL_law 717 = .ok (.f2d, 1) := by decide +kernel
theorem dL_law_718 : decode cL_law 718 = .ok (.dstore 6, 2) := by decide +kernel
theorem dL_law_720 : decode cL_law 720 = .ok (.dload 4, 2) := by decide +kernel
theorem dL_law_722 : decode cL_law 722 = .ok (.dload 6, 2) := by decide +kernel
theorem dL_law_724 : decode cL_law 724 = .ok (.dcmp .l, 1) := by decide +kernel
theorem dL_law_725 : decode cL_law 725 = .ok (.ifCond .eq 21, 3) := by decide +kernel
theorem dL_law_728 : decode cL_law 728 = .ok (.dload 4, 2) := by decide +kernel
theorem dL_law_730 : decode cL_law 730 = .ok (.dload 4, 2) := by decide +kernel
theorem dL_law_732 : decode cL_law 732 = .ok (.dcmp .l, 1) := by decide +kernel
theorem dL_law_733 : decode cL_law 733 = .ok (.ifCond .eq 11, 3) := by decide +kernel
theorem dL_law_736 : decode cL_law 736 = .ok (.dload 6, 2) := by decide +kernel
theorem dL_law_738 : decode cL_law 738 = .ok (.dload 6, 2) := by decide +kernel
theorem dL_law_740 : decode cL_law 740 = .ok (.dcmp .l, 1) := by decide +kernel
theorem dL_law_741 : decode cL_law 741 = .ok (.ifCond .ne 5, 3) := by decide +kernel
theorem dL_law_744 : decode cL_law 744 = .ok (.iconst 0, 1) := by decide +kernel
theorem dL_law_745 : decode cL_law 745 = .ok (.ireturn, 1) := by decide +kernel
theorem dL_law_746 : decode cL_law 746 = .ok (.goto 317, 3) := by decide +kernel
theorem dL_law_749 : decode cL_law 749 = .ok (.aload_n 1, 1) := by decide +kernel
theorem dL_law_750 : decode cL_law 750 = .ok (.aload_n 0, 1) := by decide +kernel
theorem dL_law_751 : decode cL_law 751 = .ok (.iload_n 3, 1) := by decide +kernel
theorem dL_law_752 : decode cL_law 752 = .ok (.iconst 1, 1) := by decide +kernel
theorem dL_law_753 : decode cL_law 753 = .ok (.iadd, 1) := by decide +kernel
theorem dL_law_754 : decode cL_law 754 = .ok (.iaload, 1) := by decide +kernel
theorem dL_law_755 : decode cL_law 755 = .ok (.invokevirtual 103, 3) := by decide +kernel
theorem dL_law_758 : decode cL_law 758 = .ok (.f2d, 1) := by decide +kernel
theorem dL_law_759 : decode cL_law 759 = .ok (.dstore 4, 2) := by decide +kernel
theorem dL_law_761 : decode cL_law 761 = .ok (.aload_n 2, 1) := by decide +kernel
theorem dL_law_762 : decode cL_law 762 = .ok (.aload_n 0, 1) := by decide +kernel
theorem dL_law_763 : decode cL_law 763 = .ok (.iload_n 3, 1) := by decide +kernel
theorem dL_law_764 : decode cL_law 764 = .ok (.iconst 1, 1) := by decide +kernel
theorem dL_law_765 : decode cL_law 765 = .ok (.iadd, 1) := by decide +kernel
theorem dL_law_766 : decode cL_law 766 = .ok (.iaload, 1) := by decide +kernel
theorem dL_law_767 : decode cL_law 767 = .ok (.invokevirtual 106, 3) := by decide +kernel
theorem dL_law_770 : decode cL_law 770 = .ok (.f2d, 1) := by decide +kernel
theorem dL_law_771 : decode cL_law 771 = .ok (.dstore 6, 2) := by decide +kernel
theorem dL_law_773 : decode cL_law 773 = .ok (.dload 4, 2) := by decide +kernel
theorem dL_law_775 : decode cL_law 775 = .ok (.dload 6, 2) := by decide +kernel
theorem dL_law_777 : decode cL_law 777 = .ok (.dcmp .l, 1) := by decide +kernel
theorem dL_law_778 : decode cL_law 778 = .ok (.ifCond .eq 21, 3) := by decide +kernel
theorem dL_law_781 : decode cL_law 781 = .ok (.dload 4, 2) := by decide +kernel
theorem dL_law_783 : decode cL_law 783 = .ok (.dload 4, 2) := by decide +kernel
theorem dL_law_785 : decode cL_law 785 = .ok (.dcmp .l, 1) := by decide +kernel
theorem dL_law_786 : decode cL_law 786 = .ok (.ifCond .eq 11, 3) := by decide +kernel
theorem dL_law_789 : decode cL_law 789 = .ok (.dload 6, 2) := by decide +kernel
theorem dL_law_791 : decode cL_law 791 = .ok (.dload 6, 2) := by decide +kernel
theorem dL_law_793 : decode cL_law 793 = .ok (.dcmp .l, 1) := by decide +kernel
theorem dL_law_794 : decode cL_law 794 = .ok (.ifCond .ne 5, 3) := by decide +kernel
theorem dL_law_797 : decode cL_law 797 = .ok (.iconst 0, 1) := by decide +kernel
theorem dL_law_798 : decode cL_law 798 = .ok (.ireturn, 1) := by decide +kernel
theorem dL_law_799 : decode cL_law 799 = .ok (.goto 264, 3) := by decide +kernel
theorem dL_law_802 : decode cL_law 802 = .ok (.aload_n 1, 1) := by decide +kernel
theorem dL_law_803 : decode cL_law 803 = .ok (.aload_n 0, 1) := by decide +kernel
theorem dL_law_804 : decode cL_law 804 = .ok (.iload_n 3, 1) := by decide +kernel
theorem dL_law_805 : decode cL_law 805 = .ok (.iconst 1, 1) := by decide +kernel
theorem dL_law_806 : decode cL_law 806 = .ok (.iadd, 1) := by decide +kernel
theorem dL_law_807 : decode cL_law 807 = .ok (.iaload, 1) := by decide +kernel
theorem dL_law_808 : decode cL_law 808 = .ok (.aload_n 0, 1) := by decide +kernel
theorem dL_law_809 : decode cL_law 809 = .ok (.iload_n 3, 1) := by decide +kernel
theorem dL_law_810 : decode cL_law 810 = .ok (.iconst 2, 1) := by decide +kernel
theorem dL_law_811 : decode cL_law 811 = .ok (.iadd, 1) := by decide +kernel
theorem dL_law_812 : decode cL_law 812 = .ok (.iaload, 1) := by decide +kernel
theorem dL_law_813 : decode cL_law 813 = .ok (.invokevirtual 107, 3) := by decide +kernel
theorem dL_law_816 : decode cL_law 816 = .ok (.aload_n 2, 1) := by decide +kernel
theorem dL_law_817 : decode cL_law 817 = .ok (.aload_n 0, 1) := by decide +kernel
theorem dL_law_818 : decode cL_law 818 = .ok (.iload_n 3, 1) := by decide +kernel
theorem dL_law_819 : decode cL_law 819 = .ok (.iconst 1, 1) := by decide +kernel
theorem dL_law_820 : decode cL_law 820 = .ok (.iadd, 1) := by decide +kernel
theorem dL_law_821 : decode cL_law 821 = .ok (.iaload, 1) := by decide +kernel
theorem dL_law_822 : decode cL_law 822 = .ok (.aload_n 0, 1) := by decide +kernel
theorem dL_law_823 : decode cL_law 823 = .ok (.iload_n 3, 1) := by decide +kernel
theorem dL_law_824 : decode cL_law 824 = .ok (.iconst 2, 1) := by decide +kernel
theorem dL_law_825 : decode cL_law 825 = .ok (.iadd, 1) := by decide +kernel
theorem dL_law_826 : decode cL_law 826 = .ok (.iaload, 1) := by decide +kernel
theorem dL_law_827 : decode cL_law 827 = .ok (.invokevirtual 110, 3) := by decide +kernel
theorem dL_law_830 : decode cL_law 830 = .ok (.if_icmp .eq 233, 3) := by decide +kernel
theorem dL_law_833 : decode cL_law 833 = .ok (.iconst 0, 1) := by decide +kernel
theorem dL_law_834 : decode cL_law 834 = .ok (.ireturn, 1) := by decide +kernel
theorem dL_law_835 : decode cL_law 835 = .ok (.aload_n 1, 1) := by decide +kernel
theorem dL_law_836 : decode cL_law 836 = .ok (.aload_n 0, 1) := by decide +kernel
theorem dL_law_837 : decode cL_law 837 = .ok (.iload_n 3, 1) := by decide +kernel
theorem dL_law_838 : decode cL_law 838 = .ok (.iconst 1, 1) := by decide +kernel
theorem dL_law_839 : decode cL_law 839 = .ok (.iadd, 1) := by decide +kernel
theorem dL_law_840 : decode cL_law 840 = .ok (.iaload, 1) := by decide +kernel
theorem dL_law_841 : decode cL_law 841 = .ok (.aload_n 0, 1) := by decide +kernel
theorem dL_law_842 : decode cL_law 842 = .ok (.iload_n 3, 1) := by decide +kernel
theorem dL_law_843 : decode cL_law 843 = .ok (.iconst 2, 1) := by decide +kernel
theorem dL_law_844 : decode cL_law 844 = .ok (.iadd, 1) := by decide +kernel
theorem dL_law_845 : decode cL_law 845 = .ok (.iaload, 1) := by decide +kernel
theorem dL_law_846 : decode cL_law 846 = .ok (.invokevirtual 111, 3) := by decide +kernel
theorem dL_law_849 : decode cL_law 849 = .ok (.f2d, 1) := by decide +kernel
theorem dL_law_850 : decode cL_law 850 = .ok (.dstore 4, 2) := by decide +kernel
theorem dL_law_852 : decode cL_law 852 = .ok (.aload_n 2, 1) := by decide +kernel
theorem dL_law_853 : decode cL_law 853 = .ok (.aload_n 0, 1) := by decide +kernel
theorem dL_law_854 : decode cL_law 854 = .ok (.iload_n 3, 1) := by decide +kernel
theorem dL_law_855 : decode cL_law 855 = .ok (.iconst 1, 1) := by decide +kernel
theorem dL_law_856 : decode cL_law 856 = .ok (.iadd, 1) := by decide +kernel
theorem dL_law_857 : decode cL_law 857 = .ok (.iaload, 1) := by decide +kernel
theorem dL_law_858 : decode cL_law 858 = .ok (.aload_n 0, 1) := by decide +kernel
theorem dL_law_859 : decode cL_law 859 = .ok (.iload_n 3, 1) := by decide +kernel
theorem dL_law_860 : decode cL_law 860 = .ok (.iconst 2, 1) := by decide +kernel
theorem dL_law_861 : decode cL_law 861 = .ok (.iadd, 1) := by decide +kernel
theorem dL_law_862 : decode cL_law 862 = .ok (.iaload, 1) := by decide +kernel
theorem dL_law_863 : decode cL_law 863 = .ok (.invokevirtual 115, 3) := by decide +kernel
theorem dL_law_866 : decode cL_law 866 = .ok (.f2d, 1) := by decide +kernel
theorem dL_law_867 : decode cL_law 867 = .ok (.dstore 6, 2) := by decide +kernel
theorem dL_law_869 : decode cL_law 869 = .ok (.dload 4, 2) := by decide +kernel
theorem dL_law_871 : decode cL_law 871 = .ok (.dload 6, 2) := by decide +kernel
theorem dL_law_873 : decode cL_law 873 = .ok (.dcmp .l, 1) := by decide +kernel
theorem dL_law_874 : decode cL_law 874 = .ok (.ifCond .eq 21, 3) := by decide +kernel
theorem dL_law_877 : decode cL_law 877 = .ok (.dload 4, 2) := by decide +kernel
theorem dL_law_879 : decode cL_law 879 = .ok (.dload 4, 2) := by decide +kernel
theorem dL_law_881 : decode cL_law 881 = .ok (.dcmp .l, 1) := by decide +kernel
theorem dL_law_882 : decode cL_law 882 = .ok (.ifCond .eq 11, 3) := by decide +kernel
theorem dL_law_885 : decode cL_law 885 = .ok (.dload 6, 2) := by decide +kernel
theorem dL_law_887 : decode cL_law 887 = .ok (.dload 6, 2) := by decide +kernel
theorem dL_law_889 : decode cL_law 889 = .ok (.dcmp .l, 1) := by decide +kernel
theorem dL_law_890 : decode cL_law 890 = .ok (.ifCond .ne 5, 3) := by decide +kernel
theorem dL_law_893 : decode cL_law 893 = .ok (.iconst 0, 1) := by decide +kernel
theorem dL_law_894 : decode cL_law 894 = .ok (.ireturn, 1) := by decide +kernel
theorem dL_law_895 : decode cL_law 895 = .ok (.goto 168, 3) := by decide +kernel
theorem dL_law_898 : decode cL_law 898 = .ok (.aload_n 1, 1) := by decide +kernel
theorem dL_law_899 : decode cL_law 899 = .ok (.aload_n 0, 1) := by decide +kernel
theorem dL_law_900 : decode cL_law 900 = .ok (.iload_n 3, 1) := by decide +kernel
theorem dL_law_901 : decode cL_law 901 = .ok (.iconst 1, 1) := by decide +kernel
theorem dL_law_902 : decode cL_law 902 = .ok (.iadd, 1) := by decide +kernel
theorem dL_law_903 : decode cL_law 903 = .ok (.iaload, 1) := by decide +kernel
theorem dL_law_904 : decode cL_law 904 = .ok (.invokevirtual 116, 3) := by decide +kernel
theorem dL_law_907 : decode cL_law 907 = .ok (.f2d, 1) := by decide +kernel
theorem dL_law_908 : decode cL_law 908 = .ok (.dstore 4, 2) := by decide +kernel
theorem dL_law_910 : decode cL_law 910 = .ok (.aload_n 2, 1) := by decide +kernel
theorem dL_law_911 : decode cL_law 911 = .ok (.aload_n 0, 1) := by decide +kernel
theorem dL_law_912 : decode cL_law 912 = .ok (.iload_n 3, 1) := by decide +kernel
theorem dL_law_913 : decode cL_law 913 = .ok (.iconst 1, 1) := by decide +kernel
theorem dL_law_914 : decode cL_law 914 = .ok (.iadd, 1) := by decide +kernel
theorem dL_law_915 : decode cL_law 915 = .ok (.iaload, 1) := by decide +kernel
theorem dL_law_916 : decode cL_law 916 = .ok (.invokevirtual 119, 3) := by decide +kernel
theorem dL_law_919 : decode cL_law 919 = .ok (.f2d, 1) := by decide +kernel
theorem dL_law_920 : decode cL_law 920 = .ok (.dstore 6, 2) := by decide +kernel
theorem dL_law_922 : decode cL_law 922 = .ok (.dload 4, 2) := by decide +kernel
theorem dL_law_924 : decode cL_law 924 = .ok (.dload 6, 2) := by decide +kernel
theorem dL_law_926 : decode cL_law 926 = .ok (.dcmp .l, 1) := by decide +kernel
theorem dL_law_927 : decode cL_law 927 = .ok (.ifCond .eq 21, 3) := by decide +kernel
theorem dL_law_930 : decode cL_law 930 = .ok (.dload 4, 2) := by decide +kernel
theorem dL_law_932 : decode cL_law 932 = .ok (.dload 4, 2) := by decide +kernel
theorem dL_law_934 : decode cL_law 934 = .ok (.dcmp .l, 1) := by decide +kernel
theorem dL_law_935 : decode cL_law 935 = .ok (.ifCond .eq 11, 3) := by decide +kernel
theorem dL_law_938 : decode cL_law 938 = .ok (.dload 6, 2) := by decide +kernel
theorem dL_law_940 : decode cL_law 940 = .ok (.dload 6, 2) := by decide +kernel
theorem dL_law_942 : decode cL_law 942 = .ok (.dcmp .l, 1) := by decide +kernel
theorem dL_law_943 : decode cL_law 943 = .ok (.ifCond .ne 5, 3) := by decide +kernel
theorem dL_law_946 : decode cL_law 946 = .ok (.iconst 0, 1) := by decide +kernel
theorem dL_law_947 : decode cL_law 947 = .ok (.ireturn, 1) := by decide +kernel
theorem dL_law_948 : decode cL_law 948 = .ok (.goto 115, 3) := by decide +kernel
theorem dL_law_951 : decode cL_law 951 = .ok (.aload_n 1, 1) := by decide +kernel
theorem dL_law_952 : decode cL_law 952 = .ok (.aload_n 0, 1) := by decide +kernel
theorem dL_law_953 : decode cL_law 953 = .ok (.iload_n 3, 1) := by decide +kernel
theorem dL_law_954 : decode cL_law 954 = .ok (.iconst 1, 1) := by decide +kernel
theorem dL_law_955 : decode cL_law 955 = .ok (.iadd, 1) := by decide +kernel
theorem dL_law_956 : decode cL_law 956 = .ok (.iaload, 1) := by decide +kernel
theorem dL_law_957 : decode cL_law 957 = .ok (.invokevirtual 120, 3) := by decide +kernel
theorem dL_law_960 : decode cL_law 960 = .ok (.aload_n 2, 1) := by decide +kernel
theorem dL_law_961 : decode cL_law 961 = .ok (.aload_n 0, 1) := by decide +kernel
theorem dL_law_962 : decode cL_law 962 = .ok (.iload_n 3, 1) := by decide +kernel
theorem dL_law_963 : decode cL_law 963 = .ok (.iconst 1, 1) := by decide +kernel
theorem dL_law_964 : decode cL_law 964 = .ok (.iadd, 1) := by decide +kernel
theorem dL_law_965 : decode cL_law 965 = .ok (.iaload, 1) := by decide +kernel
theorem dL_law_966 : decode cL_law 966 = .ok (.invokevirtual 123, 3) := by decide +kernel
theorem dL_law_969 : decode cL_law 969 = .ok (.if_icmp .eq 94, 3) := by decide +kernel
theorem dL_law_972 : decode cL_law 972 = .ok (.iconst 0, 1) := by decide +kernel
theorem dL_law_973 : decode cL_law 973 = .ok (.ireturn, 1) := by decide +kernel
theorem dL_law_974 : decode cL_law 974 = .ok (.aload_n 1, 1) := by decide +kernel
theorem dL_law_975 : decode cL_law 975 = .ok (.aload_n 0, 1) := by decide +kernel
theorem dL_law_976 : decode cL_law 976 = .ok (.iload_n 3, 1) := by decide +kernel
theorem dL_law_977 : decode cL_law 977 = .ok (.iconst 1, 1) := by decide +kernel
theorem dL_law_978 : decode cL_law 978 = .ok (.iadd, 1) := by decide +kernel
theorem dL_law_979 : decode cL_law 979 = .ok (.iaload, 1) := by decide +kernel
theorem dL_law_980 : decode cL_law 980 = .ok (.invokevirtual 124, 3) := by decide +kernel
theorem dL_law_983 : decode cL_law 983 = .ok (.aload_n 2, 1) := by decide +kernel
theorem dL_law_984 : decode cL_law 984 = .ok (.aload_n 0, 1) := by decide +kernel
theorem dL_law_985 : decode cL_law 985 = .ok (.iload_n 3, 1) := by decide +kernel
theorem dL_law_986 : decode cL_law 986 = .ok (.iconst 1, 1) := by decide +kernel
theorem dL_law_987 : decode cL_law 987 = .ok (.iadd, 1) := by decide +kernel
theorem dL_law_988 : decode cL_law 988 = .ok (.iaload, 1) := by decide +kernel
theorem dL_law_989 : decode cL_law 989 = .ok (.invokevirtual 127, 3) := by decide +kernel
theorem dL_law_992 : decode cL_law 992 = .ok (.if_icmp .eq 71, 3) := by decide +kernel
theorem dL_law_995 : decode cL_law 995 = .ok (.iconst 0, 1) := by decide +kernel
theorem dL_law_996 : decode cL_law 996 = .ok (.ireturn, 1) := by decide +kernel
theorem dL_law_997 : decode cL_law 997 = .ok (.aload_n 1, 1) := by decide +kernel
theorem dL_law_998 : decode cL_law 998 = .ok (.invokevirtual 128, 3) := by decide +kernel
theorem dL_law_1001 : decode cL_law 1001 = .ok (.f2d, 1) := by decide +kernel
theorem dL_law_1002 : decode cL_law 1002 = .ok (.dstore 4, 2) := by decide +kernel
theorem dL_law_1004 : decode cL_law 1004 = .ok (.aload_n 2, 1) := by decide +kernel
theorem dL_law_1005 : decode cL_law 1005 = .ok (.invokevirtual 132, 3) := by decide +kernel
theorem dL_law_1008 : decode cL_law 1008 = .ok (.f2d, 1) := by decide +kernel
theorem dL_law_1009 : decode cL_law 1009 = .ok (.dstore 6, 2) := by decide +kernel
theorem dL_law_1011 : decode cL_law 1011 = .ok (.dload 4, 2) := by decide +kernel
theorem dL_law_1013 : decode cL_law 1013 = .ok (.dload 6, 2) := by decide +kernel
theorem dL_law_1015 : decode cL_law 1015 = .ok (.dcmp .l, 1) := by decide +kernel
theorem dL_law_1016 : decode cL_law 1016 = .ok (.ifCond .eq 21, 3) := by decide +kernel
theorem dL_law_1019 : decode cL_law 1019 = .ok (.dload 4, 2) := by decide +kernel
theorem dL_law_1021 : decode cL_law 1021 = .ok (.dload 4, 2) := by decide +kernel
theorem dL_law_1023 : decode cL_law 1023 = .ok (.dcmp .l, 1) := by decide +kernel
theorem dL_law_1024 : decode cL_law 1024 = .ok (.ifCond .eq 11, 3) := by decide +kernel
theorem dL_law_1027 : decode cL_law 1027 = .ok (.dload 6, 2) := by decide +kernel
theorem dL_law_1029 : decode cL_law 1029 = .ok (.dload 6, 2) := by decide +kernel
theorem dL_law_1031 : decode cL_law 1031 = .ok (.dcmp .l, 1) := by decide +kernel
theorem dL_law_1032 : decode cL_law 1032 = .ok (.ifCond .ne 5, 3) := by decide +kernel
theorem dL_law_1035 : decode cL_law 1035 = .ok (.iconst 0, 1) := by decide +kernel
theorem dL_law_1036 : decode cL_law 1036 = .ok (.ireturn, 1) := by decide +kernel
theorem dL_law_1037 : decode cL_law 1037 = .ok (.goto 26, 3) := by decide +kernel
theorem dL_law_1040 : decode cL_law 1040 = .ok (.aload_n 1, 1) := by decide +kernel
theorem dL_law_1041 : decode cL_law 1041 = .ok (.aload_n 0, 1) := by decide +kernel
theorem dL_law_1042 : decode cL_law 1042 = .ok (.iload_n 3, 1) := by decide +kernel
theorem dL_law_1043 : decode cL_law 1043 = .ok (.iconst 1, 1) := by decide +kernel
theorem dL_law_1044 : decode cL_law 1044 = .ok (.iadd, 1) := by decide +kernel
theorem dL_law_1045 : decode cL_law 1045 = .ok (.iaload, 1) := by decide +kernel
theorem dL_law_1046 : decode cL_law 1046 = .ok (.invokevirtual 133, 3) := by decide +kernel
theorem dL_law_1049 : decode cL_law 1049 = .ok (.aload_n 2, 1) := by decide +kernel
theorem dL_law_1050 : decode cL_law 1050 = .ok (.aload_n 0, 1) := by decide +kernel
theorem dL_law_1051 : decode cL_law 1051 = .ok (.iload_n 3, 1) := by decide +kernel
theorem dL_law_1052 : decode cL_law 1052 = .ok (.iconst 1, 1) := by decide +kernel
theorem dL_law_1053 : decode cL_law 1053 = .ok (.iadd, 1) := by decide +kernel
theorem dL_law_1054 : decode cL_law 1054 = .ok (.iaload, 1) := by decide +kernel
theorem dL_law_1055 : decode cL_law 1055 = .ok (.invokevirtual 136, 3) := by decide +kernel
theorem dL_law_1058 : decode cL_law 1058 = .ok (.if_icmp .eq 5, 3) := by decide +kernel
theorem dL_law_1061 : decode cL_law 1061 = .ok (.iconst 0, 1) := by decide +kernel
theorem dL_law_1062 : decode cL_law 1062 = .ok (.ireturn, 1) := by decide +kernel
theorem dL_law_1063 : decode cL_law 1063 = .ok (.iinc 3 5, 3) := by decide +kernel
theorem dL_law_1066 : decode cL_law 1066 = .ok (.goto (-1048), 3) := by decide +kernel
theorem dL_law_1069 : decode cL_law 1069 = .ok (.iconst 1, 1) := by decide +kernel
theorem dL_law_1070 : decode cL_law 1070 = .ok (.ireturn, 1) := by decide +kernel
