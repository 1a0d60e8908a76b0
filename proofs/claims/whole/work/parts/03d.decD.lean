section Dec
theorem dX11_balm_11 : decode cX11_balm 11 = .ok (.invokevirtual 306, 3) := by decide +kernel
theorem dX11_balm_14 : decode cX11_balm 14 = .ok (.invokevirtual 317, 3) := by decide +kernel
theorem dX11_balm_17 : decode cX11_balm 17 = .ok (.aload_n 0, 1) := by decide +kernel
theorem dX11_balm_18 : decode cX11_balm 18 = .ok (.iload_n 3, 1) := by decide +kernel
theorem dX11_balm_19 : decode cX11_balm 19 = .ok (.iconst 0, 1) := by decide +kernel
theorem dX11_balm_20 : decode cX11_balm 20 = .ok (.sipush 9999, 3) := by decide +kernel
theorem dX11_balm_23 : decode cX11_balm 23 = .ok (.invokevirtual 267, 3) := by decide +kernel
theorem dX11_balm_26 : decode cX11_balm 26 = .ok (.iload_n 2, 1) := by decide +kernel
theorem dX11_balm_27 : decode cX11_balm 27 = .ok (.iload_n 1, 1) := by decide +kernel
theorem dX11_balm_28 : decode cX11_balm 28 = .ok (.ishr, 1) := by decide +kernel
theorem dX11_balm_29 : decode cX11_balm 29 = .ok (.iconst 1, 1) := by decide +kernel
theorem dX11_balm_30 : decode cX11_balm 30 = .ok (.iand, 1) := by decide +kernel
theorem dX11_balm_31 : decode cX11_balm 31 = .ok (.ifCond .ne 5, 3) := by decide +kernel
theorem dX11_balm_34 : decode cX11_balm 34 = .ok (.iconst 0, 1) := by decide +kernel
theorem dX11_balm_35 : decode cX11_balm 35 = .ok (.ireturn, 1) := by decide +kernel
theorem dX11_balm_36 : decode cX11_balm 36 = .ok (.iconst 0, 1) := by decide +kernel
theorem dX11_balm_37 : decode cX11_balm 37 = .ok (.istore 4, 2) := by decide +kernel
theorem dX11_balm_39 : decode cX11_balm 39 = .ok (.iload 4, 2) := by decide +kernel
theorem dX11_balm_41 : decode cX11_balm 41 = .ok (.aload_n 0, 1) := by decide +kernel
theorem dX11_balm_42 : decode cX11_balm 42 = .ok (.getfield 73, 3) := by decide +kernel
theorem dX11_balm_45 : decode cX11_balm 45 = .ok (.getfield 224, 3) := by decide +kernel
theorem dX11_balm_48 : decode cX11_balm 48 = .ok (.iload_n 1, 1) := by decide +kernel
theorem dX11_balm_49 : decode cX11_balm 49 = .ok (.iaload, 1) := by decide +kernel
theorem dX11_balm_50 : decode cX11_balm 50 = .ok (.if_icmp .ge 22, 3) := by decide +kernel
theorem dX11_balm_53 : decode cX11_balm 53 = .ok (.aload_n 0, 1) := by decide +kernel
theorem dX11_balm_54 : decode cX11_balm 54 = .ok (.iload_n 2, 1) := by decide +kernel
theorem dX11_balm_55 : decode cX11_balm 55 = .ok (.iload 4, 2) := by decide +kernel
theorem dX11_balm_57 : decode cX11_balm 57 = .ok (.iconst 1, 1) := by decide +kernel
theorem dX11_balm_58 : decode cX11_balm 58 = .ok (.iadd, 1) := by decide +kernel
theorem dX11_balm_59 : decode cX11_balm 59 = .ok (.invokevirtual 367, 3) := by decide +kernel
theorem dX11_balm_62 : decode cX11_balm 62 = .ok (.iload_n 3, 1) := by decide +kernel
theorem dX11_balm_63 : decode cX11_balm 63 = .ok (.if_icmp .gt 9, 3) := by decide +kernel
theorem dX11_balm_66 : decode cX11_balm 66 = .ok (.iinc 4 1, 3) := by decide +kernel
theorem dX11_balm_69 : decode cX11_balm 69 = .ok (.goto (-30), 3) := by decide +kernel
theorem dX11_balm_72 : decode cX11_balm 72 = .ok (.iload 4, 2) := by decide +kernel
theorem dX11_balm_74 : decode cX11_balm 74 = .ok (.ireturn, 1) := by decide +kernel
theorem dX11_weariest_0 : decode cX11_weariest 0 = .ok (.aload_n 0, 1) := by decide +kernel
theorem dX11_weariest_1 : decode cX11_weariest 1 = .ok (.iload_n 1, 1) := by decide +kernel
theorem dX11_weariest_2 : decode cX11_weariest 2 = .ok (.iconst 2, 1) := by decide +kernel
theorem dX11_weariest_3 : decode cX11_weariest 3 = .ok (.invokevirtual 181, 3) := by decide +kernel
theorem dX11_weariest_6 : decode cX11_weariest 6 = .ok (.iconst (-1), 1) := by decide +kernel
theorem dX11_weariest_7 : decode cX11_weariest 7 = .ok (.istore_n 2, 1) := by decide +kernel
theorem dX11_weariest_8 : decode cX11_weariest 8 = .ok (.iconst (-1), 1) := by decide +kernel
theorem dX11_weariest_9 : decode cX11_weariest 9 = .ok (.istore_n 3, 1) := by decide +kernel
theorem dX11_weariest_10 : decode cX11_weariest 10 = .ok (.iconst 0, 1) := by decide +kernel
theorem dX11_weariest_11 : decode cX11_weariest 11 = .ok (.istore 4, 2) := by decide +kernel
theorem dX11_weariest_13 : decode cX11_weariest 13 = .ok (.iload 4, 2) := by decide +kernel
theorem dX11_weariest_15 : decode cX11_weariest 15 = .ok (.aload_n 0, 1) := by decide +kernel
theorem dX11_weariest_16 : decode cX11_weariest 16 = .ok (.getfield 19, 3) := by decide +kernel
theorem dX11_weariest_19 : decode cX11_weariest 19 = .ok (.getfield 143, 3) := by decide +kernel
theorem dX11_weariest_22 : decode cX11_weariest 22 = .ok (.if_icmp .ge 37, 3) := by decide +kernel
theorem dX11_weariest_25 : decode cX11_weariest 25 = .ok (.aload_n 0, 1) := by decide +kernel
theorem dX11_weariest_26 : decode cX11_weariest 26 = .ok (.getfield 73, 3) := by decide +kernel
theorem dX11_weariest_29 : decode cX11_weariest 29 = .ok (.getfield 224, 3) := by decide +kernel
theorem dX11_weariest_32 : decode cX11_weariest 32 = .ok (.iload 4, 2) := by decide +kernel
theorem dX11_weariest_34 : decode cX11_weariest 34 = .ok (.iaload, 1) := by decide +kernel
theorem dX11_weariest_35 : decode cX11_weariest 35 = .ok (.iload_n 3, 1) := by decide +kernel
theorem dX11_weariest_36 : decode cX11_weariest 36 = .ok (.if_icmp .le 17, 3) := by decide +kernel
theorem dX11_weariest_39 : decode cX11_weariest 39 = .ok (.iload 4, 2) := by decide +kernel
theorem dX11_weariest_41 : decode cX11_weariest 41 = .ok (.istore_n 2, 1) := by decide +kernel
theorem dX11_weariest_42 : decode cX11_weariest 42 = .ok (.aload_n 0, 1) := by decide +kernel
theorem dX11_weariest_43 : decode cX11_weariest 43 = .ok (.getfield 73, 3) := by decide +kernel
theorem dX11_weariest_46 : decode cX11_weariest 46 = .ok (.getfield 224, 3) := by decide +kernel
theorem dX11_weariest_49 : decode cX11_weariest 49 = .ok (.iload 4, 2) := by decide +kernel
theorem dX11_weariest_51 : decode cX11_weariest 51 = .ok (.iaload, 1) := by decide +kernel
theorem dX11_weariest_52 : decode cX11_weariest 52 = .ok (.istore_n 3, 1) := by decide +kernel
theorem dX11_weariest_53 : decode cX11_weariest 53 = .ok (.iinc 4 1, 3) := by decide +kernel
theorem dX11_weariest_56 : decode cX11_weariest 56 = .ok (.goto (-43), 3) := by decide +kernel
theorem dX11_weariest_59 : decode cX11_weariest 59 = .ok (.iload_n 1, 1) := by decide +kernel
theorem dX11_weariest_60 : decode cX11_weariest 60 = .ok (.ifCond .ne 7, 3) := by decide +kernel
theorem dX11_weariest_63 : decode cX11_weariest 63 = .ok (.iload_n 2, 1) := by decide +kernel
theorem dX11_weariest_64 : decode cX11_weariest 64 = .ok (.goto 4, 3) := by decide +kernel
theorem dX11_weariest_67 : decode cX11_weariest 67 = .ok (.iload_n 3, 1) := by decide +kernel
theorem dX11_weariest_68 : decode cX11_weariest 68 = .ok (.ireturn, 1) := by decide +kernel
theorem dX11_heaviest_0 : decode cX11_heaviest 0 = .ok (.aload_n 0, 1) := by decide +kernel
theorem dX11_heaviest_1 : decode cX11_heaviest 1 = .ok (.iload_n 1, 1) := by decide +kernel
theorem dX11_heaviest_2 : decode cX11_heaviest 2 = .ok (.invokevirtual 214, 3) := by decide +kernel
theorem dX11_heaviest_5 : decode cX11_heaviest 5 = .ok (.aload_n 0, 1) := by decide +kernel
theorem dX11_heaviest_6 : decode cX11_heaviest 6 = .ok (.iload_n 2, 1) := by decide +kernel
theorem dX11_heaviest_7 : decode cX11_heaviest 7 = .ok (.iconst 2, 1) := by decide +kernel
theorem dX11_heaviest_8 : decode cX11_heaviest 8 = .ok (.invokevirtual 181, 3) := by decide +kernel
theorem dX11_heaviest_11 : decode cX11_heaviest 11 = .ok (.iconst (-1), 1) := by decide +kernel
theorem dX11_heaviest_12 : decode cX11_heaviest 12 = .ok (.istore_n 3, 1) := by decide +kernel
theorem dX11_heaviest_13 : decode cX11_heaviest 13 = .ok (.iconst (-1), 1) := by decide +kernel
theorem dX11_heaviest_14 : decode cX11_heaviest 14 = .ok (.istore 4, 2) := by decide +kernel
theorem dX11_heaviest_16 : decode cX11_heaviest 16 = .ok (.iconst 0, 1) := by decide +kernel
theorem dX11_heaviest_17 : decode cX11_heaviest 17 = .ok (.istore 5, 2) := by decide +kernel
theorem dX11_heaviest_19 : decode cX11_heaviest 19 = .ok (.iload 5, 2) := by decide +kernel
theorem dX11_heaviest_21 : decode cX11_heaviest 21 = .ok (.aload_n 0, 1) := by decide +kernel
theorem dX11_heaviest_22 : decode cX11_heaviest 22 = .ok (.getfield 19, 3) := by decide +kernel
theorem dX11_heaviest_25 : decode cX11_heaviest 25 = .ok (.getfield 184, 3) := by decide +kernel
theorem dX11_heaviest_28 : decode cX11_heaviest 28 = .ok (.if_icmp .ge 40, 3) := by decide +kernel
theorem dX11_heaviest_31 : decode cX11_heaviest 31 = .ok (.aload_n 0, 1) := by decide +kernel
theorem dX11_heaviest_32 : decode cX11_heaviest 32 = .ok (.getfield 58, 3) := by decide +kernel
theorem dX11_heaviest_35 : decode cX11_heaviest 35 = .ok (.aload_n 0, 1) := by decide +kernel
theorem dX11_heaviest_36 : decode cX11_heaviest 36 = .ok (.getfield 73, 3) := by decide +kernel
theorem dX11_heaviest_39 : decode cX11_heaviest 39 = .ok (.iload_n 1, 1) := by decide +kernel
theorem dX11_heaviest_40 : decode cX11_heaviest 40 = .ok (.iload 5, 2) := by decide +kernel
theorem dX11_heaviest_42 : decode cX11_heaviest 42 = .ok (.iconst 0, 1) := by decide +kernel
theorem dX11_heaviest_43 : decode cX11_heaviest 43 = .ok (.invokevirtual 264, 3) := by decide +kernel
theorem dX11_heaviest_46 : decode cX11_heaviest 46 = .ok (.istore 6, 2) := by decide +kernel
theorem dX11_heaviest_48 : decode cX11_heaviest 48 = .ok (.iload 6, 2) := by decide +kernel
theorem dX11_heaviest_50 : decode cX11_heaviest 50 = .ok (.iload 4, 2) := by decide +kernel
theorem dX11_heaviest_52 : decode cX11_heaviest 52 = .ok (.if_icmp .le 10, 3) := by decide +kernel
theorem dX11_heaviest_55 : decode cX11_heaviest 55 = .ok (.iload 5, 2) := by decide +kernel
theorem dX11_heaviest_57 : decode cX11_heaviest 57 = .ok (.istore_n 3, 1) := by decide +kernel
theorem dX11_heaviest_58 : decode cX11_heaviest 58 = .ok (.iload 6, 2) := by decide +kernel
theorem dX11_heaviest_60 : decode cX11_heaviest 60 = .ok (.istore 4, 2) := by decide +kernel
theorem dX11_heaviest_62 : decode cX11_heaviest 62 = .ok (.iinc 5 1, 3) := by decide +kernel
theorem dX11_heaviest_65 : decode cX11_heaviest 65 = .ok (.goto (-46), 3) := by decide +kernel
theorem dX11_heaviest_68 : decode cX11_heaviest 68 = .ok (.iload_n 2, 1) := by decide +kernel
theorem dX11_heaviest_69 : decode cX11_heaviest 69 = .ok (.ifCond .ne 7, 3) := by decide +kernel
theorem dX11_heaviest_72 : decode cX11_heaviest 72 = .ok (.iload_n 3, 1) := by decide +kernel
theorem dX11_heaviest_73 : decode cX11_heaviest 73 = .ok (.goto 5, 3) := by decide +kernel
theorem dX11_heaviest_76 : decode cX11_heaviest 76 = .ok (.iload 4, 2) := by decide +kernel
theorem dX11_heaviest_78 : decode cX11_heaviest 78 = .ok (.ireturn, 1) := by decide +kernel
theorem dX11_listeners_0 : decode cX11_listeners 0 = .ok (.aload_n 0, 1) := by decide +kernel
theorem dX11_listeners_1 : decode cX11_listeners 1 = .ok (.iload_n 1, 1) := by decide +kernel
theorem dX11_listeners_2 : decode cX11_listeners 2 = .ok (.invokevirtual 214, 3) := by decide +kernel
theorem dX11_listeners_5 : decode cX11_listeners 5 = .ok (.iconst 0, 1) := by decide +kernel
theorem dX11_listeners_6 : decode cX11_listeners 6 = .ok (.istore_n 2, 1) := by decide +kernel
theorem dX11_listeners_7 : decode cX11_listeners 7 = .ok (.iconst 0, 1) := by decide +kernel
theorem dX11_listeners_8 : decode cX11_listeners 8 = .ok (.istore_n 3, 1) := by decide +kernel
theorem dX11_listeners_9 : decode cX11_listeners 9 = .ok (.iload_n 3, 1) := by decide +kernel
theorem dX11_listeners_10 : decode cX11_listeners 10 = .ok (.aload_n 0, 1) := by decide +kernel
theorem dX11_listeners_11 : decode cX11_listeners 11 = .ok (.getfield 19, 3) := by decide +kernel
theorem dX11_listeners_14 : decode cX11_listeners 14 = .ok (.getfield 143, 3) := by decide +kernel
theorem dX11_listeners_17 : decode cX11_listeners 17 = .ok (.if_icmp .ge 31, 3) := by decide +kernel
theorem dX11_listeners_20 : decode cX11_listeners 20 = .ok (.iload_n 2, 1) := by decide +kernel
theorem dX11_listeners_21 : decode cX11_listeners 21 = .ok (.aload_n 0, 1) := by decide +kernel
theorem dX11_listeners_22 : decode cX11_listeners 22 = .ok (.getfield 73, 3) := by decide +kernel
theorem dX11_listeners_25 : decode cX11_listeners 25 = .ok (.iload_n 1, 1) := by decide +kernel
theorem dX11_listeners_26 : decode cX11_listeners 26 = .ok (.iload_n 3, 1) := by decide +kernel
theorem dX11_listeners_27 : decode cX11_listeners 27 = .ok (.invokevirtual 370, 3) := by decide +kernel
theorem dX11_listeners_30 : decode cX11_listeners 30 = .ok (.ifCond .eq 9, 3) := by decide +kernel
theorem dX11_listeners_33 : decode cX11_listeners 33 = .ok (.iconst 1, 1) := by decide +kernel
theorem dX11_listeners_34 : decode cX11_listeners 34 = .ok (.iload_n 3, 1) := by decide +kernel
theorem dX11_listeners_35 : decode cX11_listeners 35 = .ok (.ishl, 1) := by decide +kernel
theorem dX11_listeners_36 : decode cX11_listeners 36 = .ok (.goto 4, 3) := by decide +kernel
theorem dX11_listeners_39 : decode cX11_listeners 39 = .ok (.iconst 0, 1) := by decide +kernel
theorem dX11_listeners_40 : decode cX11_listeners 40 = .ok (.ior, 1) := by decide +kernel
theorem dX11_listeners_41 : decode cX11_listeners 41 = .ok (.istore_n 2, 1) := by decide +kernel
theorem dX11_listeners_42 : decode cX11_listeners 42 = .ok (.iinc 3 1, 3) := by decide +kernel
theorem dX11_listeners_45 : decode cX11_listeners 45 = .ok (.goto (-36), 3) := by decide +kernel
theorem dX11_listeners_48 : decode cX11_listeners 48 = .ok (.iload_n 2, 1) := by decide +kernel
theorem dX11_listeners_49 : decode cX11_listeners 49 = .ok (.ireturn, 1) := by decide +kernel
theorem dX11_ready_0 : decode cX11_ready 0 = .ok (.aload_n 0, 1) := by decide +kernel
theorem dX11_ready_1 : decode cX11_ready 1 = .ok (.iload_n 1, 1) := by decide +kernel
theorem dX11_ready_2 : decode cX11_ready 2 = .ok (.invokevirtual 214, 3) := by decide +kernel
theorem dX11_ready_5 : decode cX11_ready 5 = .ok (.aload_n 0, 1) := by decide +kernel
theorem dX11_ready_6 : decode cX11_ready 6 = .ok (.iload_n 2, 1) := by decide +kernel
theorem dX11_ready_7 : decode cX11_ready 7 = .ok (.invokevirtual 240, 3) := by decide +kernel
theorem dX11_ready_10 : decode cX11_ready 10 = .ok (.iconst 0, 1) := by decide +kernel
theorem dX11_ready_11 : decode cX11_ready 11 = .ok (.istore_n 3, 1) := by decide +kernel
theorem dX11_ready_12 : decode cX11_ready 12 = .ok (.iload_n 3, 1) := by decide +kernel
theorem dX11_ready_13 : decode cX11_ready 13 = .ok (.bipush 99, 2) := by decide +kernel
theorem dX11_ready_15 : decode cX11_ready 15 = .ok (.if_icmp .gt 28, 3) := by decide +kernel
theorem dX11_ready_18 : decode cX11_ready 18 = .ok (.aload_n 0, 1) := by decide +kernel
theorem dX11_ready_19 : decode cX11_ready 19 = .ok (.getfield 58, 3) := by decide +kernel
theorem dX11_ready_22 : decode cX11_ready 22 = .ok (.aload_n 0, 1) := by decide +kernel
theorem dX11_ready_23 : decode cX11_ready 23 = .ok (.getfield 73, 3) := by decide +kernel
theorem dX11_ready_26 : decode cX11_ready 26 = .ok (.iload_n 1, 1) := by decide +kernel
theorem dX11_ready_27 : decode cX11_ready 27 = .ok (.iload_n 2, 1) := by decide +kernel
theorem dX11_ready_28 : decode cX11_ready 28 = .ok (.iload_n 3, 1) := by decide +kernel
theorem dX11_ready_29 : decode cX11_ready 29 = .ok (.invokevirtual 288, 3) := by decide +kernel
theorem dX11_ready_32 : decode cX11_ready 32 = .ok (.ifCond .eq 5, 3) := by decide +kernel
theorem dX11_ready_35 : decode cX11_ready 35 = .ok (.iload_n 3, 1) := by decide +kernel
theorem dX11_ready_36 : decode cX11_ready 36 = .ok (.ireturn, 1) := by decide +kernel
theorem dX11_ready_37 : decode cX11_ready 37 = .ok (.iinc 3 1, 3) := by decide +kernel
theorem dX11_ready_40 : decode cX11_ready 40 = .ok (.goto (-28), 3) := by decide +kernel
theorem dX11_ready_43 : decode cX11_ready 43 = .ok (.iconst (-1), 1) := by decide +kernel
theorem dX11_ready_44 : decode cX11_ready 44 = .ok (.ireturn, 1) := by decide +kernel
theorem dX11_sure_0 : decode cX11_sure 0 = .ok (.aload_n 0, 1) := by decide +kernel
theorem dX11_sure_1 : decode cX11_sure 1 = .ok (.iload_n 1, 1) := by decide +kernel
theorem dX11_sure_2 : decode cX11_sure 2 = .ok (.invokevirtual 214, 3) := by decide +kernel
theorem dX11_sure_5 : decode cX11_sure 5 = .ok (.aload_n 0, 1) := by decide +kernel
theorem dX11_sure_6 : decode cX11_sure 6 = .ok (.iload_n 2, 1) := by decide +kernel
theorem dX11_sure_7 : decode cX11_sure 7 = .ok (.iconst 2, 1) := by decide +kernel
theorem dX11_sure_8 : decode cX11_sure 8 = .ok (.invokevirtual 181, 3) := by decide +kernel
theorem dX11_sure_11 : decode cX11_sure 11 = .ok (.iconst 0, 1) := by decide +kernel
theorem dX11_sure_12 : decode cX11_sure 12 = .ok (.istore_n 3, 1) := by decide +kernel
theorem dX11_sure_13 : decode cX11_sure 13 = .ok (.iconst 0, 1) := by decide +kernel
theorem dX11_sure_14 : decode cX11_sure 14 = .ok (.istore 4, 2) := by decide +kernel
theorem dX11_sure_16 : decode cX11_sure 16 = .ok (.iload 4, 2) := by decide +kernel
theorem dX11_sure_18 : decode cX11_sure 18 = .ok (.aload_n 0, 1) := by decide +kernel
theorem dX11_sure_19 : decode cX11_sure 19 = .ok (.getfield 19, 3) := by decide +kernel
theorem dX11_sure_22 : decode cX11_sure 22 = .ok (.getfield 184, 3) := by decide +kernel
theorem dX11_sure_25 : decode cX11_sure 25 = .ok (.if_icmp .ge 33, 3) := by decide +kernel
theorem dX11_sure_28 : decode cX11_sure 28 = .ok (.iload_n 3, 1) := by decide +kernel
theorem dX11_sure_29 : decode cX11_sure 29 = .ok (.aload_n 0, 1) := by decide +kernel
theorem dX11_sure_30 : decode cX11_sure 30 = .ok (.getfield 73, 3) := by decide +kernel
theorem dX11_sure_33 : decode cX11_sure 33 = .ok (.iload_n 1, 1) := by decide +kernel
theorem dX11_sure_34 : decode cX11_sure 34 = .ok (.iload 4, 2) := by decide +kernel
theorem dX11_sure_36 : decode cX11_sure 36 = .ok (.invokevirtual 256, 3) := by decide +kernel
theorem dX11_sure_39 : decode cX11_sure 39 = .ok (.ifCond .ne 10, 3) := by decide +kernel
theorem dX11_sure_42 : decode cX11_sure 42 = .ok (.iconst 1, 1) := by decide +kernel
theorem dX11_sure_43 : decode cX11_sure 43 = .ok (.iload 4, 2) := by decide +kernel
theorem dX11_sure_45 : decode cX11_sure 45 = .ok (.ishl, 1) := by decide +kernel
theorem dX11_sure_46 : decode cX11_sure 46 = .ok (.goto 4, 3) := by decide +kernel
theorem dX11_sure_49 : decode cX11_sure 49 = .ok (.iconst 0, 1) := by decide +kernel
theorem dX11_sure_50 : decode cX11_sure 50 = .ok (.ior, 1) := by decide +kernel
theorem dX11_sure_51 : decode cX11_sure 51 = .ok (.istore_n 3, 1) := by decide +kernel
theorem dX11_sure_52 : decode cX11_sure 52 = .ok (.iinc 4 1, 3) := by decide +kernel
theorem dX11_sure_55 : decode cX11_sure 55 = .ok (.goto (-39), 3) := by decide +kernel
theorem dX11_sure_58 : decode cX11_sure 58 = .ok (.iload_n 2, 1) := by decide +kernel
theorem dX11_sure_59 : decode cX11_sure 59 = .ok (.ifCond .ne 7, 3) := by decide +kernel
theorem dX11_sure_62 : decode cX11_sure 62 = .ok (.iload_n 3, 1) := by decide +kernel
theorem dX11_sure_63 : decode cX11_sure 63 = .ok (.goto 16, 3) := by decide +kernel
theorem dX11_sure_66 : decode cX11_sure 66 = .ok (.aload_n 0, 1) := by decide +kernel
theorem dX11_sure_67 : decode cX11_sure 67 = .ok (.getfield 73, 3) := by decide +kernel
theorem dX11_sure_70 : decode cX11_sure 70 = .ok (.getfield 231, 3) := by decide +kernel
theorem dX11_sure_73 : decode cX11_sure 73 = .ok (.iload_n 1, 1) := by decide +kernel
theorem dX11_sure_74 : decode cX11_sure 74 = .ok (.iaload, 1) := by decide +kernel
theorem dX11_sure_75 : decode cX11_sure 75 = .ok (.iload_n 3, 1) := by decide +kernel
theorem dX11_sure_76 : decode cX11_sure 76 = .ok (.iconst (-1), 1) := by decide +kernel
theorem dX11_sure_77 : decode cX11_sure 77 = .ok (.ixor, 1) := by decide +kernel
theorem dX11_sure_78 : decode cX11_sure 78 = .ok (.iand, 1) := by decide +kernel
theorem dX11_sure_79 : decode cX11_sure 79 = .ok (.ireturn, 1) := by decide +kernel
theorem dX11_bearers_0 : decode cX11_bearers 0 = .ok (.aload_n 0, 1) := by decide +kernel
theorem dX11_bearers_1 : decode cX11_bearers 1 = .ok (.iload_n 1, 1) := by decide +kernel
theorem dX11_bearers_2 : decode cX11_bearers 2 = .ok (.invokevirtual 240, 3) := by decide +kernel
theorem dX11_bearers_5 : decode cX11_bearers 5 = .ok (.iconst 0, 1) := by decide +kernel
theorem dX11_bearers_6 : decode cX11_bearers 6 = .ok (.istore_n 2, 1) := by decide +kernel
theorem dX11_bearers_7 : decode cX11_bearers 7 = .ok (.iconst 0, 1) := by decide +kernel
theorem dX11_bearers_8 : decode cX11_bearers 8 = .ok (.istore_n 3, 1) := by decide +kernel
theorem dX11_bearers_9 : decode cX11_bearers 9 = .ok (.iload_n 3, 1) := by decide +kernel
theorem dX11_bearers_10 : decode cX11_bearers 10 = .ok (.aload_n 0, 1) := by decide +kernel
theorem dX11_bearers_11 : decode cX11_bearers 11 = .ok (.getfield 19, 3) := by decide +kernel
theorem dX11_bearers_14 : decode cX11_bearers 14 = .ok (.getfield 143, 3) := by decide +kernel
theorem dX11_bearers_17 : decode cX11_bearers 17 = .ok (.if_icmp .ge 36, 3) := by decide +kernel
theorem dX11_bearers_20 : decode cX11_bearers 20 = .ok (.iload_n 2, 1) := by decide +kernel
theorem dX11_bearers_21 : decode cX11_bearers 21 = .ok (.aload_n 0, 1) := by decide +kernel
theorem dX11_bearers_22 : decode cX11_bearers 22 = .ok (.getfield 58, 3) := by decide +kernel
theorem dX11_bearers_25 : decode cX11_bearers 25 = .ok (.aload_n 0, 1) := by decide +kernel
theorem dX11_bearers_26 : decode cX11_bearers 26 = .ok (.getfield 73, 3) := by decide +kernel
theorem dX11_bearers_29 : decode cX11_bearers 29 = .ok (.iload_n 3, 1) := by decide +kernel
theorem dX11_bearers_30 : decode cX11_bearers 30 = .ok (.iload_n 1, 1) := by decide +kernel
theorem dX11_bearers_31 : decode cX11_bearers 31 = .ok (.iconst 0, 1) := by decide +kernel
theorem dX11_bearers_32 : decode cX11_bearers 32 = .ok (.invokevirtual 288, 3) := by decide +kernel
theorem dX11_bearers_35 : decode cX11_bearers 35 = .ok (.ifCond .eq 9, 3) := by decide +kernel
theorem dX11_bearers_38 : decode cX11_bearers 38 = .ok (.iconst 1, 1) := by decide +kernel
theorem dX11_bearers_39 : decode cX11_bearers 39 = .ok (.iload_n 3, 1) := by decide +kernel
theorem dX11_bearers_40 : decode cX11_bearers 40 = .ok (.ishl, 1) := by decide +kernel
theorem dX11_bearers_41 : decode cX11_bearers 41 = .ok (.goto 4, 3) := by decide +kernel
theorem dX11_bearers_44 : decode cX11_bearers 44 = .ok (.iconst 0, 1) := by decide +kernel
theorem dX11_bearers_45 : decode cX11_bearers 45 = .ok (.ior, 1) := by decide +kernel
theorem dX11_bearers_46 : decode cX11_bearers 46 = .ok (.istore_n 2, 1) := by decide +kernel
theorem dX11_bearers_47 : decode cX11_bearers 47 = .ok (.iinc 3 1, 3) := by decide +kernel
theorem dX11_bearers_50 : decode cX11_bearers 50 = .ok (.goto (-41), 3) := by decide +kernel
theorem dX11_bearers_53 : decode cX11_bearers 53 = .ok (.iload_n 2, 1) := by decide +kernel
theorem dX11_bearers_54 : decode cX11_bearers 54 = .ok (.ireturn, 1) := by decide +kernel
theorem dX11_rumour_0 : decode cX11_rumour 0 = .ok (.aload_n 0, 1) := by decide +kernel
theorem dX11_rumour_1 : decode cX11_rumour 1 = .ok (.iload_n 1, 1) := by decide +kernel
theorem dX11_rumour_2 : decode cX11_rumour 2 = .ok (.invokevirtual 240, 3) := by decide +kernel
theorem dX11_rumour_5 : decode cX11_rumour 5 = .ok (.aload_n 0, 1) := by decide +kernel
theorem dX11_rumour_6 : decode cX11_rumour 6 = .ok (.iload_n 2, 1) := by decide +kernel
theorem dX11_rumour_7 : decode cX11_rumour 7 = .ok (.iconst 2, 1) := by decide +kernel
theorem dX11_rumour_8 : decode cX11_rumour 8 = .ok (.invokevirtual 181, 3) := by decide +kernel
theorem dX11_rumour_11 : decode cX11_rumour 11 = .ok (.iconst (-1), 1) := by decide +kernel
theorem dX11_rumour_12 : decode cX11_rumour 12 = .ok (.istore_n 3, 1) := by decide +kernel
theorem dX11_rumour_13 : decode cX11_rumour 13 = .ok (.iconst (-1), 1) := by decide +kernel
theorem dX11_rumour_14 : decode cX11_rumour 14 = .ok (.istore 4, 2) := by decide +kernel
theorem dX11_rumour_16 : decode cX11_rumour 16 = .ok (.iconst 0, 1) := by decide +kernel
theorem dX11_rumour_17 : decode cX11_rumour 17 = .ok (.istore 5, 2) := by decide +kernel
theorem dX11_rumour_19 : decode cX11_rumour 19 = .ok (.iload 5, 2) := by decide +kernel
theorem dX11_rumour_21 : decode cX11_rumour 21 = .ok (.aload_n 0, 1) := by decide +kernel
theorem dX11_rumour_22 : decode cX11_rumour 22 = .ok (.getfield 19, 3) := by decide +kernel
theorem dX11_rumour_25 : decode cX11_rumour 25 = .ok (.getfield 143, 3) := by decide +kernel
theorem dX11_rumour_28 : decode cX11_rumour 28 = .ok (.if_icmp .ge 35, 3) := by decide +kernel
theorem dX11_rumour_31 : decode cX11_rumour 31 = .ok (.aload_n 0, 1) := by decide +kernel
theorem dX11_rumour_32 : decode cX11_rumour 32 = .ok (.getfield 73, 3) := by decide +kernel
theorem dX11_rumour_35 : decode cX11_rumour 35 = .ok (.iload 5, 2) := by decide +kernel
theorem dX11_rumour_37 : decode cX11_rumour 37 = .ok (.iload_n 1, 1) := by decide +kernel
theorem dX11_rumour_38 : decode cX11_rumour 38 = .ok (.invokevirtual 256, 3) := by decide +kernel
theorem dX11_rumour_41 : decode cX11_rumour 41 = .ok (.istore 6, 2) := by decide +kernel
theorem dX11_rumour_43 : decode cX11_rumour 43 = .ok (.iload 6, 2) := by decide +kernel
theorem dX11_rumour_45 : decode cX11_rumour 45 = .ok (.iload 4, 2) := by decide +kernel
theorem dX11_rumour_47 : decode cX11_rumour 47 = .ok (.if_icmp .le 10, 3) := by decide +kernel
theorem dX11_rumour_50 : decode cX11_rumour 50 = .ok (.iload 5, 2) := by decide +kernel
theorem dX11_rumour_52 : decode cX11_rumour 52 = .ok (.istore_n 3, 1) := by decide +kernel
theorem dX11_rumour_53 : decode cX11_rumour 53 = .ok (.iload 6, 2) := by decide +kernel
theorem dX11_rumour_55 : decode cX11_rumour 55 = .ok (.istore 4, 2) := by decide +kernel
theorem dX11_rumour_57 : decode cX11_rumour 57 = .ok (.iinc 5 1, 3) := by decide +kernel
theorem dX11_rumour_60 : decode cX11_rumour 60 = .ok (.goto (-41), 3) := by decide +kernel
theorem dX11_rumour_63 : decode cX11_rumour 63 = .ok (.iload_n 2, 1) := by decide +kernel
theorem dX11_rumour_64 : decode cX11_rumour 64 = .ok (.ifCond .ne 7, 3) := by decide +kernel
theorem dX11_rumour_67 : decode cX11_rumour 67 = .ok (.iload_n 3, 1) := by decide +kernel
theorem dX11_rumour_68 : decode cX11_rumour 68 = .ok (.goto 5, 3) := by decide +kernel
theorem dX11_rumour_71 : decode cX11_rumour 71 = .ok (.iload 4, 2) := by decide +kernel
theorem dX11_rumour_73 : decode cX11_rumour 73 = .ok (.ireturn, 1) := by decide +kernel
theorem dX11_lied_0 : decode cX11_lied 0 = .ok (.aload_n 0, 1) := by decide +kernel
theorem dX11_lied_1 : decode cX11_lied 1 = .ok (.iload_n 1, 1) := by decide +kernel
theorem dX11_lied_2 : decode cX11_lied 2 = .ok (.iconst 0, 1) := by decide +kernel
theorem dX11_lied_3 : decode cX11_lied 3 = .ok (.bipush 9, 2) := by decide +kernel
theorem dX11_lied_5 : decode cX11_lied 5 = .ok (.invokevirtual 267, 3) := by decide +kernel
theorem dX11_lied_8 : decode cX11_lied 8 = .ok (.aload_n 0, 1) := by decide +kernel
theorem dX11_lied_9 : decode cX11_lied 9 = .ok (.iload_n 2, 1) := by decide +kernel
theorem dX11_lied_10 : decode cX11_lied 10 = .ok (.iconst 2, 1) := by decide +kernel
theorem dX11_lied_11 : decode cX11_lied 11 = .ok (.invokevirtual 181, 3) := by decide +kernel
theorem dX11_lied_14 : decode cX11_lied 14 = .ok (.iconst 0, 1) := by decide +kernel
theorem dX11_lied_15 : decode cX11_lied 15 = .ok (.istore_n 3, 1) := by decide +kernel
theorem dX11_lied_16 : decode cX11_lied 16 = .ok (.iconst 0, 1) := by decide +kernel
theorem dX11_lied_17 : decode cX11_lied 17 = .ok (.istore 4, 2) := by decide +kernel
theorem dX11_lied_19 : decode cX11_lied 19 = .ok (.iload 4, 2) := by decide +kernel
theorem dX11_lied_21 : decode cX11_lied 21 = .ok (.aload_n 0, 1) := by decide +kernel
theorem dX11_lied_22 : decode cX11_lied 22 = .ok (.getfield 19, 3) := by decide +kernel
theorem dX11_lied_25 : decode cX11_lied 25 = .ok (.getfield 184, 3) := by decide +kernel
theorem dX11_lied_28 : decode cX11_lied 28 = .ok (.if_icmp .ge 64, 3) := by decide +kernel
theorem dX11_lied_31 : decode cX11_lied 31 = .ok (.aload_n 0, 1) := by decide +kernel
theorem dX11_lied_32 : decode cX11_lied 32 = .ok (.getfield 73, 3) := by decide +kernel
theorem dX11_lied_35 : decode cX11_lied 35 = .ok (.getfield 249, 3) := by decide +kernel
theorem dX11_lied_38 : decode cX11_lied 38 = .ok (.iload 4, 2) := by decide +kernel
theorem dX11_lied_40 : decode cX11_lied 40 = .ok (.iaload, 1) := by decide +kernel
theorem dX11_lied_41 : decode cX11_lied 41 = .ok (.ifCond .le 7, 3) := by decide +kernel
theorem dX11_lied_44 : decode cX11_lied 44 = .ok (.iconst 1, 1) := by decide +kernel
theorem dX11_lied_45 : decode cX11_lied 45 = .ok (.goto 4, 3) := by decide +kernel
theorem dX11_lied_48 : decode cX11_lied 48 = .ok (.iconst 0, 1) := by decide +kernel
theorem dX11_lied_49 : decode cX11_lied 49 = .ok (.istore 5, 2) := by decide +kernel
theorem dX11_lied_51 : decode cX11_lied 51 = .ok (.aload_n 0, 1) := by decide +kernel
theorem dX11_lied_52 : decode cX11_lied 52 = .ok (.getfield 19, 3) := by decide +kernel
theorem dX11_lied_55 : decode cX11_lied 55 = .ok (.getfield 246, 3) := by decide +kernel
theorem dX11_lied_58 : decode cX11_lied 58 = .ok (.iload 4, 2) := by decide +kernel
theorem dX11_lied_60 : decode cX11_lied 60 = .ok (.iaload, 1) := by decide +kernel
theorem dX11_lied_61 : decode cX11_lied 61 = .ok (.iload_n 1, 1) := by decide +kernel
theorem dX11_lied_62 : decode cX11_lied 62 = .ok (.if_icmp .lt 24, 3) := by decide +kernel
theorem dX11_lied_65 : decode cX11_lied 65 = .ok (.iload 5, 2) := by decide +kernel
theorem dX11_lied_67 : decode cX11_lied 67 = .ok (.iload_n 2, 1) := by decide +kernel
theorem dX11_lied_68 : decode cX11_lied 68 = .ok (.ifCond .ne 7, 3) := by decide +kernel
theorem dX11_lied_71 : decode cX11_lied 71 = .ok (.iconst 1, 1) := by decide +kernel
theorem dX11_lied_72 : decode cX11_lied 72 = .ok (.goto 4, 3) := by decide +kernel
theorem dX11_lied_75 : decode cX11_lied 75 = .ok (.iconst 0, 1) := by decide +kernel
theorem dX11_lied_76 : decode cX11_lied 76 = .ok (.if_icmp .ne 10, 3) := by decide +kernel
theorem dX11_lied_79 : decode cX11_lied 79 = .ok (.iload_n 3, 1) := by decide +kernel
theorem dX11_lied_80 : decode cX11_lied 80 = .ok (.iconst 1, 1) := by decide +kernel
theorem dX11_lied_81 : decode cX11_lied 81 = .ok (.iload 4, 2) := by decide +kernel
theorem dX11_lied_83 : decode cX11_lied 83 = .ok (.ishl, 1) := by decide +kernel
theorem dX11_lied_84 : decode cX11_lied 84 = .ok (.ior, 1) := by decide +kernel
theorem dX11_lied_85 : decode cX11_lied 85 = .ok (.istore_n 3, 1) := by decide +kernel
theorem dX11_lied_86 : decode cX11_lied 86 = .ok (.iinc 4 1, 3) := by decide +kernel
theorem dX11_lied_89 : decode cX11_lied 89 = .ok (.goto (-70), 3) := by decide +kernel
theorem dX11_lied_92 : decode cX11_lied 92 = .ok (.iload_n 3, 1) := by decide +kernel
theorem dX11_lied_93 : decode cX11_lied 93 = .ok (.ireturn, 1) := by decide +kernel
theorem dX11_reign_0 : decode cX11_reign 0 = .ok (.aload_n 0, 1) := by decide +kernel
theorem dX11_reign_1 : decode cX11_reign 1 = .ok (.iload_n 2, 1) := by decide +kernel
theorem dX11_reign_2 : decode cX11_reign 2 = .ok (.iconst 0, 1) := by decide +kernel
theorem dX11_reign_3 : decode cX11_reign 3 = .ok (.bipush 16, 2) := by decide +kernel
theorem dX11_reign_5 : decode cX11_reign 5 = .ok (.invokevirtual 267, 3) := by decide +kernel
theorem dX11_reign_8 : decode cX11_reign 8 = .ok (.aload_n 0, 1) := by decide +kernel
theorem dX11_reign_9 : decode cX11_reign 9 = .ok (.iload_n 3, 1) := by decide +kernel
theorem dX11_reign_10 : decode cX11_reign 10 = .ok (.iconst 1, 1) := by decide +kernel
theorem dX11_reign_11 : decode cX11_reign 11 = .ok (.bipush 48, 2) := by decide +kernel
theorem dX11_reign_13 : decode cX11_reign 13 = .ok (.invokevirtual 267, 3) := by decide +kernel
theorem dX11_reign_16 : decode cX11_reign 16 = .ok (.aload_n 0, 1) := by decide +kernel
theorem dX11_reign_17 : decode cX11_reign 17 = .ok (.iload 4, 2) := by decide +kernel
theorem dX11_reign_19 : decode cX11_reign 19 = .ok (.iconst 4, 1) := by decide +kernel
theorem dX11_reign_20 : decode cX11_reign 20 = .ok (.invokevirtual 181, 3) := by decide +kernel
theorem dX11_reign_23 : decode cX11_reign 23 = .ok (.aload_n 0, 1) := by decide +kernel
theorem dX11_reign_24 : decode cX11_reign 24 = .ok (.getfield 99, 3) := by decide +kernel
theorem dX11_reign_27 : decode cX11_reign 27 = .ok (.aload_n 0, 1) := by decide +kernel
theorem dX11_reign_28 : decode cX11_reign 28 = .ok (.getfield 73, 3) := by decide +kernel
theorem dX11_reign_31 : decode cX11_reign 31 = .ok (.iload_n 1, 1) := by decide +kernel
theorem dX11_reign_32 : decode cX11_reign 32 = .ok (.iload_n 2, 1) := by decide +kernel
theorem dX11_reign_33 : decode cX11_reign 33 = .ok (.iload_n 3, 1) := by decide +kernel
theorem dX11_reign_34 : decode cX11_reign 34 = .ok (.invokevirtual 373, 3) := by decide +kernel
theorem dX11_reign_37 : decode cX11_reign 37 = .ok (.iload 4, 2) := by decide +kernel
theorem dX11_reign_39 : decode cX11_reign 39 = .ok (.tableswitch 55 0 2 #[25, 33, 44], 25) := by decide +kernel
theorem dX11_reign_64 : decode cX11_reign 64 = .ok (.aload_n 0, 1) := by decide +kernel
theorem dX11_reign_65 : decode cX11_reign 65 = .ok (.getfield 99, 3) := by decide +kernel
theorem dX11_reign_68 : decode cX11_reign 68 = .ok (.getfield 377, 3) := by decide +kernel
theorem dX11_reign_71 : decode cX11_reign 71 = .ok (.ireturn, 1) := by decide +kernel
theorem dX11_reign_72 : decode cX11_reign 72 = .ok (.aload_n 0, 1) := by decide +kernel
theorem dX11_reign_73 : decode cX11_reign 73 = .ok (.getfield 99, 3) := by decide +kernel
theorem dX11_reign_76 : decode cX11_reign 76 = .ok (.getfield 380, 3) := by decide +kernel
theorem dX11_reign_79 : decode cX11_reign 79 = .ok (.getfield 198, 3) := by decide +kernel
theorem dX11_reign_82 : decode cX11_reign 82 = .ok (.ireturn, 1) := by decide +kernel
theorem dX11_reign_83 : decode cX11_reign 83 = .ok (.aload_n 0, 1) := by decide +kernel
theorem dX11_reign_84 : decode cX11_reign 84 = .ok (.getfield 99, 3) := by decide +kernel
theorem dX11_reign_87 : decode cX11_reign 87 = .ok (.getfield 380, 3) := by decide +kernel
theorem dX11_reign_90 : decode cX11_reign 90 = .ok (.invokevirtual 201, 3) := by decide +kernel
theorem dX11_reign_93 : decode cX11_reign 93 = .ok (.ireturn, 1) := by decide +kernel
theorem dX11_reign_94 : decode cX11_reign 94 = .ok (.aload_n 0, 1) := by decide +kernel
theorem dX11_reign_95 : decode cX11_reign 95 = .ok (.getfield 99, 3) := by decide +kernel
theorem dX11_reign_98 : decode cX11_reign 98 = .ok (.getfield 380, 3) := by decide +kernel
theorem dX11_reign_101 : decode cX11_reign 101 = .ok (.invokevirtual 207, 3) := by decide +kernel
theorem dX11_reign_104 : decode cX11_reign 104 = .ok (.ireturn, 1) := by decide +kernel
theorem dX11_span_0 : decode cX11_span 0 = .ok (.aload_n 0, 1) := by decide +kernel
theorem dX11_span_1 : decode cX11_span 1 = .ok (.iload_n 2, 1) := by decide +kernel
theorem dX11_span_2 : decode cX11_span 2 = .ok (.iconst 1, 1) := by decide +kernel
theorem dX11_span_3 : decode cX11_span 3 = .ok (.bipush 10, 2) := by decide +kernel
theorem dX11_span_5 : decode cX11_span 5 = .ok (.invokevirtual 267, 3) := by decide +kernel
theorem dX11_span_8 : decode cX11_span 8 = .ok (.aload_n 0, 1) := by decide +kernel
theorem dX11_span_9 : decode cX11_span 9 = .ok (.iload_n 3, 1) := by decide +kernel
theorem dX11_span_10 : decode cX11_span 10 = .ok (.iconst 0, 1) := by decide +kernel
theorem dX11_span_11 : decode cX11_span 11 = .ok (.bipush 16, 2) := by decide +kernel
theorem dX11_span_13 : decode cX11_span 13 = .ok (.invokevirtual 267, 3) := by decide +kernel
theorem dX11_span_16 : decode cX11_span 16 = .ok (.aload_n 0, 1) := by decide +kernel
theorem dX11_span_17 : decode cX11_span 17 = .ok (.iload 4, 2) := by decide +kernel
theorem dX11_span_19 : decode cX11_span 19 = .ok (.iconst 1, 1) := by decide +kernel
theorem dX11_span_20 : decode cX11_span 20 = .ok (.bipush 48, 2) := by decide +kernel
theorem dX11_span_22 : decode cX11_span 22 = .ok (.invokevirtual 267, 3) := by decide +kernel
theorem dX11_span_25 : decode cX11_span 25 = .ok (.aload_n 0, 1) := by decide +kernel
theorem dX11_span_26 : decode cX11_span 26 = .ok (.iload 5, 2) := by decide +kernel
theorem dX11_span_28 : decode cX11_span 28 = .ok (.iconst 3, 1) := by decide +kernel
theorem dX11_span_29 : decode cX11_span 29 = .ok (.invokevirtual 181, 3) := by decide +kernel
theorem dX11_span_32 : decode cX11_span 32 = .ok (.aload_n 0, 1) := by decide +kernel
theorem dX11_span_33 : decode cX11_span 33 = .ok (.iload 6, 2) := by decide +kernel
theorem dX11_span_35 : decode cX11_span 35 = .ok (.iconst 0, 1) := by decide +kernel
theorem dX11_span_36 : decode cX11_span 36 = .ok (.aload_n 0, 1) := by decide +kernel
theorem dX11_span_37 : decode cX11_span 37 = .ok (.getfield 19, 3) := by decide +kernel
theorem dX11_span_40 : decode cX11_span 40 = .ok (.getfield 143, 3) := by decide +kernel
theorem dX11_span_43 : decode cX11_span 43 = .ok (.iconst 1, 1) := by decide +kernel
theorem dX11_span_44 : decode cX11_span 44 = .ok (.isub, 1) := by decide +kernel
theorem dX11_span_45 : decode cX11_span 45 = .ok (.invokevirtual 267, 3) := by decide +kernel
theorem dX11_span_48 : decode cX11_span 48 = .ok (.iconst 0, 1) := by decide +kernel
theorem dX11_span_49 : decode cX11_span 49 = .ok (.istore 7, 2) := by decide +kernel
theorem dX11_span_51 : decode cX11_span 51 = .ok (.iconst 0, 1) := by decide +kernel
theorem dX11_span_52 : decode cX11_span 52 = .ok (.istore 8, 2) := by decide +kernel
theorem dX11_span_54 : decode cX11_span 54 = .ok (.iconst 0, 1) := by decide +kernel
theorem dX11_span_55 : decode cX11_span 55 = .ok (.istore 9, 2) := by decide +kernel
theorem dX11_span_57 : decode cX11_span 57 = .ok (.iconst 0, 1) := by decide +kernel
theorem dX11_span_58 : decode cX11_span 58 = .ok (.istore 10, 2) := by decide +kernel
theorem dX11_span_60 : decode cX11_span 60 = .ok (.iload 10, 2) := by decide +kernel
theorem dX11_span_62 : decode cX11_span 62 = .ok (.iload_n 2, 1) := by decide +kernel
theorem dX11_span_63 : decode cX11_span 63 = .ok (.if_icmp .ge 95, 3) := by decide +kernel
theorem dX11_span_66 : decode cX11_span 66 = .ok (.aload_n 0, 1) := by decide +kernel
theorem dX11_span_67 : decode cX11_span 67 = .ok (.getfield 99, 3) := by decide +kernel
theorem dX11_span_70 : decode cX11_span 70 = .ok (.aload_n 0, 1) := by decide +kernel
theorem dX11_span_71 : decode cX11_span 71 = .ok (.getfield 73, 3) := by decide +kernel
theorem dX11_span_74 : decode cX11_span 74 = .ok (.iload_n 1, 1) := by decide +kernel
theorem dX11_span_75 : decode cX11_span 75 = .ok (.iload 10, 2) := by decide +kernel
theorem dX11_span_77 : decode cX11_span 77 = .ok (.iadd, 1) := by decide +kernel
theorem dX11_span_78 : decode cX11_span 78 = .ok (.iload_n 3, 1) := by decide +kernel
theorem dX11_span_79 : decode cX11_span 79 = .ok (.iload 4, 2) := by decide +kernel
theorem dX11_span_81 : decode cX11_span 81 = .ok (.invokevirtual 373, 3) := by decide +kernel
theorem dX11_span_84 : decode cX11_span 84 = .ok (.iload 10, 2) := by decide +kernel
theorem dX11_span_86 : decode cX11_span 86 = .ok (.ifCond .ne 13, 3) := by decide +kernel
theorem dX11_span_89 : decode cX11_span 89 = .ok (.aload_n 0, 1) := by decide +kernel
theorem dX11_span_90 : decode cX11_span 90 = .ok (.getfield 99, 3) := by decide +kernel
theorem dX11_span_93 : decode cX11_span 93 = .ok (.getfield 377, 3) := by decide +kernel
theorem dX11_span_96 : decode cX11_span 96 = .ok (.goto 15, 3) := by decide +kernel
theorem dX11_span_99 : decode cX11_span 99 = .ok (.iload 7, 2) := by decide +kernel
theorem dX11_span_101 : decode cX11_span 101 = .ok (.aload_n 0, 1) := by decide +kernel
theorem dX11_span_102 : decode cX11_span 102 = .ok (.getfield 99, 3) := by decide +kernel
theorem dX11_span_105 : decode cX11_span 105 = .ok (.getfield 377, 3) := by decide +kernel
theorem dX11_span_108 : decode cX11_span 108 = .ok (.invokestatic 383, 3) := by decide +kernel
theorem dX11_span_111 : decode cX11_span 111 = .ok (.istore 7, 2) := by decide +kernel
theorem dX11_span_113 : decode cX11_span 113 = .ok (.iload 8, 2) := by decide +kernel
theorem dX11_span_115 : decode cX11_span 115 = .ok (.aload_n 0, 1) := by decide +kernel
theorem dX11_span_116 : decode cX11_span 116 = .ok (.getfield 99, 3) := by decide +kernel
theorem dX11_span_119 : decode cX11_span 119 = .ok (.getfield 377, 3) := by decide +kernel
theorem dX11_span_122 : decode cX11_span 122 = .ok (.invokestatic 388, 3) := by decide +kernel
theorem dX11_span_125 : decode cX11_span 125 = .ok (.istore 8, 2) := by decide +kernel
theorem dX11_span_127 : decode cX11_span 127 = .ok (.iload 9, 2) := by decide +kernel
theorem dX11_span_129 : decode cX11_span 129 = .ok (.aload_n 0, 1) := by decide +kernel
theorem dX11_span_130 : decode cX11_span 130 = .ok (.getfield 99, 3) := by decide +kernel
theorem dX11_span_133 : decode cX11_span 133 = .ok (.getfield 380, 3) := by decide +kernel
theorem dX11_span_136 : decode cX11_span 136 = .ok (.iload 6, 2) := by decide +kernel
theorem dX11_span_138 : decode cX11_span 138 = .ok (.invokevirtual 227, 3) := by decide +kernel
theorem dX11_span_141 : decode cX11_span 141 = .ok (.ifCond .eq 7, 3) := by decide +kernel
theorem dX11_span_144 : decode cX11_span 144 = .ok (.iconst 1, 1) := by decide +kernel
theorem dX11_span_145 : decode cX11_span 145 = .ok (.goto 4, 3) := by decide +kernel
theorem dX11_span_148 : decode cX11_span 148 = .ok (.iconst 0, 1) := by decide +kernel
theorem dX11_span_149 : decode cX11_span 149 = .ok (.iadd, 1) := by decide +kernel
theorem dX11_span_150 : decode cX11_span 150 = .ok (.istore 9, 2) := by decide +kernel
theorem dX11_span_152 : decode cX11_span 152 = .ok (.iinc 10 1, 3) := by decide +kernel
theorem dX11_span_155 : decode cX11_span 155 = .ok (.goto (-95), 3) := by decide +kernel
theorem dX11_span_158 : decode cX11_span 158 = .ok (.iload 5, 2) := by decide +kernel
theorem dX11_span_160 : decode cX11_span 160 = .ok (.ifCond .ne 8, 3) := by decide +kernel
theorem dX11_span_163 : decode cX11_span 163 = .ok (.iload 7, 2) := by decide +kernel
theorem dX11_span_165 : decode cX11_span 165 = .ok (.goto 16, 3) := by decide +kernel
theorem dX11_span_168 : decode cX11_span 168 = .ok (.iload 5, 2) := by decide +kernel
theorem dX11_span_170 : decode cX11_span 170 = .ok (.iconst 1, 1) := by decide +kernel
theorem dX11_span_171 : decode cX11_span 171 = .ok (.if_icmp .ne 8, 3) := by decide +kernel
theorem dX11_span_174 : decode cX11_span 174 = .ok (.iload 8, 2) := by decide +kernel
theorem dX11_span_176 : decode cX11_span 176 = .ok (.goto 5, 3) := by decide +kernel
theorem dX11_span_179 : decode cX11_span 179 = .ok (.iload 9, 2) := by decide +kernel
theorem dX11_span_181 : decode cX11_span 181 = .ok (.ireturn, 1) := by decide +kernel
theorem dX11_image_0 : decode cX11_image 0 = .ok (.aload_n 0, 1) := by decide +kernel
theorem dX11_image_1 : decode cX11_image 1 = .ok (.getfield 137, 3) := by decide +kernel
theorem dX11_image_4 : decode cX11_image 4 = .ok (.iconst 3, 1) := by decide +kernel
theorem dX11_image_5 : decode cX11_image 5 = .ok (.if_icmp .lt 5, 3) := by decide +kernel
theorem dX11_image_8 : decode cX11_image 8 = .ok (.iconst (-1), 1) := by decide +kernel
theorem dX11_image_9 : decode cX11_image 9 = .ok (.ireturn, 1) := by decide +kernel
theorem dX11_image_10 : decode cX11_image 10 = .ok (.aload_n 0, 1) := by decide +kernel
theorem dX11_image_11 : decode cX11_image 11 = .ok (.getfield 74, 3) := by decide +kernel
theorem dX11_image_14 : decode cX11_image 14 = .ok (.aload_n 0, 1) := by decide +kernel
theorem dX11_image_15 : decode cX11_image 15 = .ok (.getfield 137, 3) := by decide +kernel
theorem dX11_image_18 : decode cX11_image 18 = .ok (.aaload, 1) := by decide +kernel
theorem dX11_image_19 : decode cX11_image 19 = .ok (.aload_n 0, 1) := by decide +kernel
theorem dX11_image_20 : decode cX11_image 20 = .ok (.getfield 65, 3) := by decide +kernel
theorem dX11_image_23 : decode cX11_image 23 = .ok (.invokevirtual 391, 3) := by decide +kernel
theorem dX11_image_26 : decode cX11_image 26 = .ok (.aload_n 0, 1) := by decide +kernel
theorem dX11_image_27 : decode cX11_image 27 = .ok (.dup, 1) := by decide +kernel
theorem dX11_image_28 : decode cX11_image 28 = .ok (.getfield 137, 3) := by decide +kernel
theorem dX11_image_31 : decode cX11_image 31 = .ok (.iconst 1, 1) := by decide +kernel
theorem dX11_image_32 : decode cX11_image 32 = .ok (.iadd, 1) := by decide +kernel
theorem dX11_image_33 : decode cX11_image 33 = .ok (.putfield 137, 3) := by decide +kernel
theorem dX11_image_36 : decode cX11_image 36 = .ok (.aload_n 0, 1) := by decide +kernel
theorem dX11_image_37 : decode cX11_image 37 = .ok (.getfield 137, 3) := by decide +kernel
theorem dX11_image_40 : decode cX11_image 40 = .ok (.ireturn, 1) := by decide +kernel
theorem dX11_restore_0 : decode cX11_restore 0 = .ok (.aload_n 0, 1) := by decide +kernel
theorem dX11_restore_1 : decode cX11_restore 1 = .ok (.getfield 137, 3) := by decide +kernel
theorem dX11_restore_4 : decode cX11_restore 4 = .ok (.ifCond .ne 5, 3) := by decide +kernel
theorem dX11_restore_7 : decode cX11_restore 7 = .ok (.iconst (-1), 1) := by decide +kernel
theorem dX11_restore_8 : decode cX11_restore 8 = .ok (.ireturn, 1) := by decide +kernel
theorem dX11_restore_9 : decode cX11_restore 9 = .ok (.aload_n 0, 1) := by decide +kernel
theorem dX11_restore_10 : decode cX11_restore 10 = .ok (.dup, 1) := by decide +kernel
theorem dX11_restore_11 : decode cX11_restore 11 = .ok (.getfield 137, 3) := by decide +kernel
theorem dX11_restore_14 : decode cX11_restore 14 = .ok (.iconst 1, 1) := by decide +kernel
theorem dX11_restore_15 : decode cX11_restore 15 = .ok (.isub, 1) := by decide +kernel
theorem dX11_restore_16 : decode cX11_restore 16 = .ok (.putfield 137, 3) := by decide +kernel
theorem dX11_restore_19 : decode cX11_restore 19 = .ok (.aload_n 0, 1) := by decide +kernel
theorem dX11_restore_20 : decode cX11_restore 20 = .ok (.getfield 65, 3) := by decide +kernel
theorem dX11_restore_23 : decode cX11_restore 23 = .ok (.aload_n 0, 1) := by decide +kernel
theorem dX11_restore_24 : decode cX11_restore 24 = .ok (.getfield 74, 3) := by decide +kernel
theorem dX11_restore_27 : decode cX11_restore 27 = .ok (.aload_n 0, 1) := by decide +kernel
theorem dX11_restore_28 : decode cX11_restore 28 = .ok (.getfield 137, 3) := by decide +kernel
theorem dX11_restore_31 : decode cX11_restore 31 = .ok (.aaload, 1) := by decide +kernel
theorem dX11_restore_32 : decode cX11_restore 32 = .ok (.invokevirtual 391, 3) := by decide +kernel
theorem dX11_restore_35 : decode cX11_restore 35 = .ok (.aload_n 0, 1) := by decide +kernel
theorem dX11_restore_36 : decode cX11_restore 36 = .ok (.iconst 0, 1) := by decide +kernel
theorem dX11_restore_37 : decode cX11_restore 37 = .ok (.putfield 140, 3) := by decide +kernel
theorem dX11_restore_40 : decode cX11_restore 40 = .ok (.aload_n 0, 1) := by decide +kernel
theorem dX11_restore_41 : decode cX11_restore 41 = .ok (.getfield 137, 3) := by decide +kernel
theorem dX11_restore_44 : decode cX11_restore 44 = .ok (.ireturn, 1) := by decide +kernel
theorem dX11_status_0 : decode cX11_status 0 = .ok (.iload_n 1, 1) := by decide +kernel
theorem dX11_status_1 : decode cX11_status 1 = .ok (.lookupswitch 37 #[(0, 27), (1, 32)], 27) := by decide +kernel
theorem dX11_status_28 : decode cX11_status 28 = .ok (.aload_n 0, 1) := by decide +kernel
theorem dX11_status_29 : decode cX11_status 29 = .ok (.getfield 394, 3) := by decide +kernel
theorem dX11_status_32 : decode cX11_status 32 = .ok (.ireturn, 1) := by decide +kernel
theorem dX11_status_33 : decode cX11_status 33 = .ok (.aload_n 0, 1) := by decide +kernel
theorem dX11_status_34 : decode cX11_status 34 = .ok (.getfield 397, 3) := by decide +kernel
theorem dX11_status_37 : decode cX11_status 37 = .ok (.ireturn, 1) := by decide +kernel
theorem dX11_status_38 : decode cX11_status 38 = .ok (.iconst (-1), 1) := by decide +kernel
theorem dX11_status_39 : decode cX11_status 39 = .ok (.ireturn, 1) := by decide +kernel
theorem dX11_count_0 : decode cX11_count 0 = .ok (.iload_n 1, 1) := by decide +kernel
theorem dX11_count_1 : decode cX11_count 1 = .ok (.tableswitch 48 0 2 #[27, 32, 40], 27) := by decide +kernel
theorem dX11_count_28 : decode cX11_count 28 = .ok (.aload_n 0, 1) := by decide +kernel
theorem dX11_count_29 : decode cX11_count 29 = .ok (.getfield 137, 3) := by decide +kernel
theorem dX11_count_32 : decode cX11_count 32 = .ok (.ireturn, 1) := by decide +kernel
theorem dX11_count_33 : decode cX11_count 33 = .ok (.aload_n 0, 1) := by decide +kernel
theorem dX11_count_34 : decode cX11_count 34 = .ok (.getfield 10, 3) := by decide +kernel
theorem dX11_count_37 : decode cX11_count 37 = .ok (.getfield 103, 3) := by decide +kernel
theorem dX11_count_40 : decode cX11_count 40 = .ok (.ireturn, 1) := by decide +kernel
theorem dX11_count_41 : decode cX11_count 41 = .ok (.aload_n 0, 1) := by decide +kernel
theorem dX11_count_42 : decode cX11_count 42 = .ok (.getfield 65, 3) := by decide +kernel
theorem dX11_count_45 : decode cX11_count 45 = .ok (.getfield 150, 3) := by decide +kernel
theorem dX11_count_48 : decode cX11_count 48 = .ok (.ireturn, 1) := by decide +kernel
theorem dX11_count_49 : decode cX11_count 49 = .ok (.iconst (-1), 1) := by decide +kernel
theorem dX11_count_50 : decode cX11_count 50 = .ok (.ireturn, 1) := by decide +kernel
theorem dX11_needBack_0 : decode cX11_needBack 0 = .ok (.iload_n 1, 1) := by decide +kernel
theorem dX11_needBack_1 : decode cX11_needBack 1 = .ok (.ifCond .lt 14, 3) := by decide +kernel
theorem dX11_needBack_4 : decode cX11_needBack 4 = .ok (.iload_n 1, 1) := by decide +kernel
theorem dX11_needBack_5 : decode cX11_needBack 5 = .ok (.aload_n 0, 1) := by decide +kernel
theorem dX11_needBack_6 : decode cX11_needBack 6 = .ok (.getfield 19, 3) := by decide +kernel
theorem dX11_needBack_9 : decode cX11_needBack 9 = .ok (.getfield 143, 3) := by decide +kernel
theorem dX11_needBack_12 : decode cX11_needBack 12 = .ok (.if_icmp .lt 24, 3) := by decide +kernel
theorem dX11_needBack_15 : decode cX11_needBack 15 = .ok (.aload_n 0, 1) := by decide +kernel
theorem dX11_needBack_16 : decode cX11_needBack 16 = .ok (.dup, 1) := by decide +kernel
theorem dX11_needBack_17 : decode cX11_needBack 17 = .ok (.getfield 394, 3) := by decide +kernel
theorem dX11_needBack_20 : decode cX11_needBack 20 = .ok (.iconst 1, 1) := by decide +kernel
theorem dX11_needBack_21 : decode cX11_needBack 21 = .ok (.iadd, 1) := by decide +kernel
theorem dX11_needBack_22 : decode cX11_needBack 22 = .ok (.putfield 394, 3) := by decide +kernel
theorem dX11_needBack_25 : decode cX11_needBack 25 = .ok (.new 400, 3) := by decide +kernel
theorem dX11_needBack_28 : decode cX11_needBack 28 = .ok (.dup, 1) := by decide +kernel
theorem dX11_needBack_29 : decode cX11_needBack 29 = .ok (.ldc_w 402, 3) := by decide +kernel
theorem dX11_needBack_32 : decode cX11_needBack 32 = .ok (.invokespecial 404, 3) := by decide +kernel
theorem dX11_needBack_35 : decode cX11_needBack 35 = .ok (.athrow, 1) := by decide +kernel
theorem dX11_needBack_36 : decode cX11_needBack 36 = .ok (.return_, 1) := by decide +kernel
theorem dX11_needCouncil_0 : decode cX11_needCouncil 0 = .ok (.iload_n 1, 1) := by decide +kernel
theorem dX11_needCouncil_1 : decode cX11_needCouncil 1 = .ok (.ifCond .lt 14, 3) := by decide +kernel
theorem dX11_needCouncil_4 : decode cX11_needCouncil 4 = .ok (.iload_n 1, 1) := by decide +kernel
theorem dX11_needCouncil_5 : decode cX11_needCouncil 5 = .ok (.aload_n 0, 1) := by decide +kernel
theorem dX11_needCouncil_6 : decode cX11_needCouncil 6 = .ok (.getfield 19, 3) := by decide +kernel
theorem dX11_needCouncil_9 : decode cX11_needCouncil 9 = .ok (.getfield 184, 3) := by decide +kernel
theorem dX11_needCouncil_12 : decode cX11_needCouncil 12 = .ok (.if_icmp .lt 24, 3) := by decide +kernel
theorem dX11_needCouncil_15 : decode cX11_needCouncil 15 = .ok (.aload_n 0, 1) := by decide +kernel
theorem dX11_needCouncil_16 : decode cX11_needCouncil 16 = .ok (.dup, 1) := by decide +kernel
theorem dX11_needCouncil_17 : decode cX11_needCouncil 17 = .ok (.getfield 394, 3) := by decide +kernel
theorem dX11_needCouncil_20 : decode cX11_needCouncil 20 = .ok (.iconst 1, 1) := by decide +kernel
theorem dX11_needCouncil_21 : decode cX11_needCouncil 21 = .ok (.iadd, 1) := by decide +kernel
theorem dX11_needCouncil_22 : decode cX11_needCouncil 22 = .ok (.putfield 394, 3) := by decide +kernel
theorem dX11_needCouncil_25 : decode cX11_needCouncil 25 = .ok (.new 400, 3) := by decide +kernel
theorem dX11_needCouncil_28 : decode cX11_needCouncil 28 = .ok (.dup, 1) := by decide +kernel
theorem dX11_needCouncil_29 : decode cX11_needCouncil 29 = .ok (.ldc_w 407, 3) := by decide +kernel
theorem dX11_needCouncil_32 : decode cX11_needCouncil 32 = .ok (.invokespecial 404, 3) := by decide +kernel
theorem dX11_needCouncil_35 : decode cX11_needCouncil 35 = .ok (.athrow, 1) := by decide +kernel
theorem dX11_needCouncil_36 : decode cX11_needCouncil 36 = .ok (.return_, 1) := by decide +kernel
theorem dX11_needRange_0 : decode cX11_needRange 0 = .ok (.iload_n 1, 1) := by decide +kernel
theorem dX11_needRange_1 : decode cX11_needRange 1 = .ok (.iload_n 2, 1) := by decide +kernel
theorem dX11_needRange_2 : decode cX11_needRange 2 = .ok (.if_icmp .lt 8, 3) := by decide +kernel
theorem dX11_needRange_5 : decode cX11_needRange 5 = .ok (.iload_n 1, 1) := by decide +kernel
theorem dX11_needRange_6 : decode cX11_needRange 6 = .ok (.iload_n 3, 1) := by decide +kernel
theorem dX11_needRange_7 : decode cX11_needRange 7 = .ok (.if_icmp .le 24, 3) := by decide +kernel
theorem dX11_needRange_10 : decode cX11_needRange 10 = .ok (.aload_n 0, 1) := by decide +kernel
theorem dX11_needRange_11 : decode cX11_needRange 11 = .ok (.dup, 1) := by decide +kernel
theorem dX11_needRange_12 : decode cX11_needRange 12 = .ok (.getfield 397, 3) := by decide +kernel
theorem dX11_needRange_15 : decode cX11_needRange 15 = .ok (.iconst 1, 1) := by decide +kernel
theorem dX11_needRange_16 : decode cX11_needRange 16 = .ok (.iadd, 1) := by decide +kernel
theorem dX11_needRange_17 : decode cX11_needRange 17 = .ok (.putfield 397, 3) := by decide +kernel
theorem dX11_needRange_20 : decode cX11_needRange 20 = .ok (.new 409, 3) := by decide +kernel
theorem dX11_needRange_23 : decode cX11_needRange 23 = .ok (.dup, 1) := by decide +kernel
theorem dX11_needRange_24 : decode cX11_needRange 24 = .ok (.ldc_w 411, 3) := by decide +kernel
theorem dX11_needRange_27 : decode cX11_needRange 27 = .ok (.invokespecial 413, 3) := by decide +kernel
theorem dX11_needRange_30 : decode cX11_needRange 30 = .ok (.athrow, 1) := by decide +kernel
theorem dX11_needRange_31 : decode cX11_needRange 31 = .ok (.return_, 1) := by decide +kernel
theorem dX11_needWhat_0 : decode cX11_needWhat 0 = .ok (.aload_n 0, 1) := by decide +kernel
theorem dX11_needWhat_1 : decode cX11_needWhat 1 = .ok (.iload_n 1, 1) := by decide +kernel
theorem dX11_needWhat_2 : decode cX11_needWhat 2 = .ok (.iconst 0, 1) := by decide +kernel
theorem dX11_needWhat_3 : decode cX11_needWhat 3 = .ok (.iload_n 2, 1) := by decide +kernel
theorem dX11_needWhat_4 : decode cX11_needWhat 4 = .ok (.iconst 1, 1) := by decide +kernel
theorem dX11_needWhat_5 : decode cX11_needWhat 5 = .ok (.isub, 1) := by decide +kernel
theorem dX11_needWhat_6 : decode cX11_needWhat 6 = .ok (.invokevirtual 267, 3) := by decide +kernel
theorem dX11_needWhat_9 : decode cX11_needWhat 9 = .ok (.return_, 1) := by decide +kernel
theorem dX11_needTextLength_0 : decode cX11_needTextLength 0 = .ok (.aload_n 0, 1) := by decide +kernel
theorem dX11_needTextLength_1 : decode cX11_needTextLength 1 = .ok (.iload_n 1, 1) := by decide +kernel
theorem dX11_needTextLength_2 : decode cX11_needTextLength 2 = .ok (.iconst 0, 1) := by decide +kernel
theorem dX11_needTextLength_3 : decode cX11_needTextLength 3 = .ok (.iload_n 2, 1) := by decide +kernel
theorem dX11_needTextLength_4 : decode cX11_needTextLength 4 = .ok (.aload_n 0, 1) := by decide +kernel
theorem dX11_needTextLength_5 : decode cX11_needTextLength 5 = .ok (.getfield 10, 3) := by decide +kernel
theorem dX11_needTextLength_8 : decode cX11_needTextLength 8 = .ok (.getfield 103, 3) := by decide +kernel
theorem dX11_needTextLength_11 : decode cX11_needTextLength 11 = .ok (.invokestatic 383, 3) := by decide +kernel
theorem dX11_needTextLength_14 : decode cX11_needTextLength 14 = .ok (.invokevirtual 267, 3) := by decide +kernel
theorem dX11_needTextLength_17 : decode cX11_needTextLength 17 = .ok (.return_, 1) := by decide +kernel
theorem dX11_needBits_0 : decode cX11_needBits 0 = .ok (.iload_n 1, 1) := by decide +kernel
theorem dX11_needBits_1 : decode cX11_needBits 1 = .ok (.iload_n 2, 1) := by decide +kernel
theorem dX11_needBits_2 : decode cX11_needBits 2 = .ok (.iconst (-1), 1) := by decide +kernel
theorem dX11_needBits_3 : decode cX11_needBits 3 = .ok (.ixor, 1) := by decide +kernel
theorem dX11_needBits_4 : decode cX11_needBits 4 = .ok (.iand, 1) := by decide +kernel
theorem dX11_needBits_5 : decode cX11_needBits 5 = .ok (.ifCond .eq 24, 3) := by decide +kernel
theorem dX11_needBits_8 : decode cX11_needBits 8 = .ok (.aload_n 0, 1) := by decide +kernel
theorem dX11_needBits_9 : decode cX11_needBits 9 = .ok (.dup, 1) := by decide +kernel
theorem dX11_needBits_10 : decode cX11_needBits 10 = .ok (.getfield 397, 3) := by decide +kernel
theorem dX11_needBits_13 : decode cX11_needBits 13 = .ok (.iconst 1, 1) := by decide +kernel
theorem dX11_needBits_14 : decode cX11_needBits 14 = .ok (.iadd, 1) := by decide +kernel
theorem dX11_needBits_15 : decode cX11_needBits 15 = .ok (.putfield 397, 3) := by decide +kernel
theorem dX11_needBits_18 : decode cX11_needBits 18 = .ok (.new 409, 3) := by decide +kernel
theorem dX11_needBits_21 : decode cX11_needBits 21 = .ok (.dup, 1) := by decide +kernel
theorem dX11_needBits_22 : decode cX11_needBits 22 = .ok (.ldc_w 414, 3) := by decide +kernel
theorem dX11_needBits_25 : decode cX11_needBits 25 = .ok (.invokespecial 413, 3) := by decide +kernel
theorem dX11_needBits_28 : decode cX11_needBits 28 = .ok (.athrow, 1) := by decide +kernel
theorem dX11_needBits_29 : decode cX11_needBits 29 = .ok (.return_, 1) := by decide +kernel
theorem dX11_needRosterBits_0 : decode cX11_needRosterBits 0 = .ok (.aload_n 0, 1) := by decide +kernel
theorem dX11_needRosterBits_1 : decode cX11_needRosterBits 1 = .ok (.iload_n 1, 1) := by decide +kernel
theorem dX11_needRosterBits_2 : decode cX11_needRosterBits 2 = .ok (.aload_n 0, 1) := by decide +kernel
theorem dX11_needRosterBits_3 : decode cX11_needRosterBits 3 = .ok (.getfield 19, 3) := by decide +kernel
theorem dX11_needRosterBits_6 : decode cX11_needRosterBits 6 = .ok (.invokevirtual 314, 3) := by decide +kernel
theorem dX11_needRosterBits_9 : decode cX11_needRosterBits 9 = .ok (.invokevirtual 317, 3) := by decide +kernel
theorem dX11_needRosterBits_12 : decode cX11_needRosterBits 12 = .ok (.aload_n 0, 1) := by decide +kernel
theorem dX11_needRosterBits_13 : decode cX11_needRosterBits 13 = .ok (.iload_n 1, 1) := by decide +kernel
theorem dX11_needRosterBits_14 : decode cX11_needRosterBits 14 = .ok (.invokestatic 309, 3) := by decide +kernel
theorem dX11_needRosterBits_17 : decode cX11_needRosterBits 17 = .ok (.iconst 0, 1) := by decide +kernel
theorem dX11_needRosterBits_18 : decode cX11_needRosterBits 18 = .ok (.bipush 6, 2) := by decide +kernel
theorem dX11_needRosterBits_20 : decode cX11_needRosterBits 20 = .ok (.invokevirtual 267, 3) := by decide +kernel
theorem dX11_needRosterBits_23 : decode cX11_needRosterBits 23 = .ok (.return_, 1) := by decide +kernel
theorem dX11_backsWithBit_0 : decode cX11_backsWithBit 0 = .ok (.iconst 0, 1) := by decide +kernel
theorem dX11_backsWithBit_1 : decode cX11_backsWithBit 1 = .ok (.istore_n 3, 1) := by decide +kernel
theorem dX11_backsWithBit_2 : decode cX11_backsWithBit 2 = .ok (.iconst 0, 1) := by decide +kernel
theorem dX11_backsWithBit_3 : decode cX11_backsWithBit 3 = .ok (.istore 4, 2) := by decide +kernel
theorem dX11_backsWithBit_5 : decode cX11_backsWithBit 5 = .ok (.iload 4, 2) := by decide +kernel
theorem dX11_backsWithBit_7 : decode cX11_backsWithBit 7 = .ok (.aload_n 0, 1) := by decide +kernel
theorem dX11_backsWithBit_8 : decode cX11_backsWithBit 8 = .ok (.getfield 19, 3) := by decide +kernel
theorem dX11_backsWithBit_11 : decode cX11_backsWithBit 11 = .ok (.getfield 143, 3) := by decide +kernel
theorem dX11_backsWithBit_14 : decode cX11_backsWithBit 14 = .ok (.if_icmp .ge 23, 3) := by decide +kernel
theorem dX11_backsWithBit_17 : decode cX11_backsWithBit 17 = .ok (.iload_n 3, 1) := by decide +kernel
theorem dX11_backsWithBit_18 : decode cX11_backsWithBit 18 = .ok (.aload_n 1, 1) := by decide +kernel
theorem dX11_backsWithBit_19 : decode cX11_backsWithBit 19 = .ok (.iload 4, 2) := by decide +kernel
theorem dX11_backsWithBit_21 : decode cX11_backsWithBit 21 = .ok (.iaload, 1) := by decide +kernel
theorem dX11_backsWithBit_22 : decode cX11_backsWithBit 22 = .ok (.iload_n 2, 1) := by decide +kernel
theorem dX11_backsWithBit_23 : decode cX11_backsWithBit 23 = .ok (.ishr, 1) := by decide +kernel
theorem dX11_backsWithBit_24 : decode cX11_backsWithBit 24 = .ok (.iconst 1, 1) := by decide +kernel
theorem dX11_backsWithBit_25 : decode cX11_backsWithBit 25 = .ok (.iand, 1) := by decide +kernel
theorem dX11_backsWithBit_26 : decode cX11_backsWithBit 26 = .ok (.iload 4, 2) := by decide +kernel
theorem dX11_backsWithBit_28 : decode cX11_backsWithBit 28 = .ok (.ishl, 1) := by decide +kernel
theorem dX11_backsWithBit_29 : decode cX11_backsWithBit 29 = .ok (.ior, 1) := by decide +kernel
theorem dX11_backsWithBit_30 : decode cX11_backsWithBit 30 = .ok (.istore_n 3, 1) := by decide +kernel
theorem dX11_backsWithBit_31 : decode cX11_backsWithBit 31 = .ok (.iinc 4 1, 3) := by decide +kernel
theorem dX11_backsWithBit_34 : decode cX11_backsWithBit 34 = .ok (.goto (-29), 3) := by decide +kernel
theorem dX11_backsWithBit_37 : decode cX11_backsWithBit 37 = .ok (.iload_n 3, 1) := by decide +kernel
theorem dX11_backsWithBit_38 : decode cX11_backsWithBit 38 = .ok (.ireturn, 1) := by decide +kernel
theorem dX11_isEasedTo_0 : decode cX11_isEasedTo 0 = .ok (.iconst 0, 1) := by decide +kernel
theorem dX11_isEasedTo_1 : decode cX11_isEasedTo 1 = .ok (.istore 4, 2) := by decide +kernel
theorem dX11_isEasedTo_3 : decode cX11_isEasedTo 3 = .ok (.iconst 0, 1) := by decide +kernel
theorem dX11_isEasedTo_4 : decode cX11_isEasedTo 4 = .ok (.istore 5, 2) := by decide +kernel
theorem dX11_isEasedTo_6 : decode cX11_isEasedTo 6 = .ok (.iload 5, 2) := by decide +kernel
theorem dX11_isEasedTo_8 : decode cX11_isEasedTo 8 = .ok (.aload_n 0, 1) := by decide +kernel
theorem dX11_isEasedTo_9 : decode cX11_isEasedTo 9 = .ok (.getfield 19, 3) := by decide +kernel
theorem dX11_isEasedTo_12 : decode cX11_isEasedTo 12 = .ok (.getfield 184, 3) := by decide +kernel
theorem dX11_isEasedTo_15 : decode cX11_isEasedTo 15 = .ok (.if_icmp .ge 81, 3) := by decide +kernel
theorem dX11_isEasedTo_18 : decode cX11_isEasedTo 18 = .ok (.iload_n 2, 1) := by decide +kernel
theorem dX11_isEasedTo_19 : decode cX11_isEasedTo 19 = .ok (.iload 5, 2) := by decide +kernel
theorem dX11_isEasedTo_21 : decode cX11_isEasedTo 21 = .ok (.ishr, 1) := by decide +kernel
theorem dX11_isEasedTo_22 : decode cX11_isEasedTo 22 = .ok (.iconst 1, 1) := by decide +kernel
theorem dX11_isEasedTo_23 : decode cX11_isEasedTo 23 = .ok (.iand, 1) := by decide +kernel
theorem dX11_isEasedTo_24 : decode cX11_isEasedTo 24 = .ok (.ifCond .ne 6, 3) := by decide +kernel
theorem dX11_isEasedTo_27 : decode cX11_isEasedTo 27 = .ok (.goto 63, 3) := by decide +kernel
theorem dX11_isEasedTo_30 : decode cX11_isEasedTo 30 = .ok (.aload_n 0, 1) := by decide +kernel
theorem dX11_isEasedTo_31 : decode cX11_isEasedTo 31 = .ok (.getfield 19, 3) := by decide +kernel
theorem dX11_isEasedTo_34 : decode cX11_isEasedTo 34 = .ok (.getfield 246, 3) := by decide +kernel
theorem dX11_isEasedTo_37 : decode cX11_isEasedTo 37 = .ok (.iload 5, 2) := by decide +kernel
theorem dX11_isEasedTo_39 : decode cX11_isEasedTo 39 = .ok (.iaload, 1) := by decide +kernel
theorem dX11_isEasedTo_40 : decode cX11_isEasedTo 40 = .ok (.iload_n 1, 1) := by decide +kernel
theorem dX11_isEasedTo_41 : decode cX11_isEasedTo 41 = .ok (.if_icmp .le 5, 3) := by decide +kernel
theorem dX11_isEasedTo_44 : decode cX11_isEasedTo 44 = .ok (.iconst 0, 1) := by decide +kernel
theorem dX11_isEasedTo_45 : decode cX11_isEasedTo 45 = .ok (.ireturn, 1) := by decide +kernel
theorem dX11_isEasedTo_46 : decode cX11_isEasedTo 46 = .ok (.iconst 0, 1) := by decide +kernel
theorem dX11_isEasedTo_47 : decode cX11_isEasedTo 47 = .ok (.aload_n 0, 1) := by decide +kernel
theorem dX11_isEasedTo_48 : decode cX11_isEasedTo 48 = .ok (.getfield 19, 3) := by decide +kernel
theorem dX11_isEasedTo_51 : decode cX11_isEasedTo 51 = .ok (.getfield 187, 3) := by decide +kernel
theorem dX11_isEasedTo_54 : decode cX11_isEasedTo 54 = .ok (.aload_n 0, 1) := by decide +kernel
theorem dX11_isEasedTo_55 : decode cX11_isEasedTo 55 = .ok (.getfield 19, 3) := by decide +kernel
theorem dX11_isEasedTo_58 : decode cX11_isEasedTo 58 = .ok (.getfield 246, 3) := by decide +kernel
theorem dX11_isEasedTo_61 : decode cX11_isEasedTo 61 = .ok (.iload 5, 2) := by decide +kernel
theorem dX11_isEasedTo_63 : decode cX11_isEasedTo 63 = .ok (.iaload, 1) := by decide +kernel
theorem dX11_isEasedTo_64 : decode cX11_isEasedTo 64 = .ok (.iadd, 1) := by decide +kernel
theorem dX11_isEasedTo_65 : decode cX11_isEasedTo 65 = .ok (.iload_n 1, 1) := by decide +kernel
theorem dX11_isEasedTo_66 : decode cX11_isEasedTo 66 = .ok (.isub, 1) := by decide +kernel
theorem dX11_isEasedTo_67 : decode cX11_isEasedTo 67 = .ok (.invokestatic 388, 3) := by decide +kernel
theorem dX11_isEasedTo_70 : decode cX11_isEasedTo 70 = .ok (.istore 6, 2) := by decide +kernel
theorem dX11_isEasedTo_72 : decode cX11_isEasedTo 72 = .ok (.iload 4, 2) := by decide +kernel
theorem dX11_isEasedTo_74 : decode cX11_isEasedTo 74 = .ok (.aload_n 0, 1) := by decide +kernel
theorem dX11_isEasedTo_75 : decode cX11_isEasedTo 75 = .ok (.getfield 19, 3) := by decide +kernel
theorem dX11_isEasedTo_78 : decode cX11_isEasedTo 78 = .ok (.getfield 243, 3) := by decide +kernel
theorem dX11_isEasedTo_81 : decode cX11_isEasedTo 81 = .ok (.iload 5, 2) := by decide +kernel
theorem dX11_isEasedTo_83 : decode cX11_isEasedTo 83 = .ok (.iaload, 1) := by decide +kernel
theorem dX11_isEasedTo_84 : decode cX11_isEasedTo 84 = .ok (.iload 6, 2) := by decide +kernel
theorem dX11_isEasedTo_86 : decode cX11_isEasedTo 86 = .ok (.imul, 1) := by decide +kernel
theorem dX11_isEasedTo_87 : decode cX11_isEasedTo 87 = .ok (.iadd, 1) := by decide +kernel
theorem dX11_isEasedTo_88 : decode cX11_isEasedTo 88 = .ok (.istore 4, 2) := by decide +kernel
theorem dX11_isEasedTo_90 : decode cX11_isEasedTo 90 = .ok (.iinc 5 1, 3) := by decide +kernel
theorem dX11_isEasedTo_93 : decode cX11_isEasedTo 93 = .ok (.goto (-87), 3) := by decide +kernel
theorem dX11_isEasedTo_96 : decode cX11_isEasedTo 96 = .ok (.iload 4, 2) := by decide +kernel
theorem dX11_isEasedTo_98 : decode cX11_isEasedTo 98 = .ok (.iload_n 3, 1) := by decide +kernel
theorem dX11_isEasedTo_99 : decode cX11_isEasedTo 99 = .ok (.if_icmp .gt 7, 3) := by decide +kernel
theorem dX11_isEasedTo_102 : decode cX11_isEasedTo 102 = .ok (.iconst 1, 1) := by decide +kernel
theorem dX11_isEasedTo_103 : decode cX11_isEasedTo 103 = .ok (.goto 4, 3) := by decide +kernel
theorem dX11_isEasedTo_106 : decode cX11_isEasedTo 106 = .ok (.iconst 0, 1) := by decide +kernel
theorem dX11_isEasedTo_107 : decode cX11_isEasedTo 107 = .ok (.ireturn, 1) := by decide +kernel
theorem dX11_strengthOf_0 : decode cX11_strengthOf 0 = .ok (.iconst 0, 1) := by decide +kernel
theorem dX11_strengthOf_1 : decode cX11_strengthOf 1 = .ok (.istore_n 2, 1) := by decide +kernel
theorem dX11_strengthOf_2 : decode cX11_strengthOf 2 = .ok (.iconst 0, 1) := by decide +kernel
theorem dX11_strengthOf_3 : decode cX11_strengthOf 3 = .ok (.istore_n 3, 1) := by decide +kernel
theorem dX11_strengthOf_4 : decode cX11_strengthOf 4 = .ok (.iload_n 3, 1) := by decide +kernel
theorem dX11_strengthOf_5 : decode cX11_strengthOf 5 = .ok (.aload_n 0, 1) := by decide +kernel
theorem dX11_strengthOf_6 : decode cX11_strengthOf 6 = .ok (.getfield 19, 3) := by decide +kernel
theorem dX11_strengthOf_9 : decode cX11_strengthOf 9 = .ok (.getfield 143, 3) := by decide +kernel
theorem dX11_strengthOf_12 : decode cX11_strengthOf 12 = .ok (.if_icmp .ge 27, 3) := by decide +kernel
theorem dX11_strengthOf_15 : decode cX11_strengthOf 15 = .ok (.iload_n 2, 1) := by decide +kernel
theorem dX11_strengthOf_16 : decode cX11_strengthOf 16 = .ok (.iload_n 1, 1) := by decide +kernel
theorem dX11_strengthOf_17 : decode cX11_strengthOf 17 = .ok (.iload_n 3, 1) := by decide +kernel
theorem dX11_strengthOf_18 : decode cX11_strengthOf 18 = .ok (.ishr, 1) := by decide +kernel
theorem dX11_strengthOf_19 : decode cX11_strengthOf 19 = .ok (.iconst 1, 1) := by decide +kernel
theorem dX11_strengthOf_20 : decode cX11_strengthOf 20 = .ok (.iand, 1) := by decide +kernel
theorem dX11_strengthOf_21 : decode cX11_strengthOf 21 = .ok (.aload_n 0, 1) := by decide +kernel
theorem dX11_strengthOf_22 : decode cX11_strengthOf 22 = .ok (.getfield 19, 3) := by decide +kernel
theorem dX11_strengthOf_25 : decode cX11_strengthOf 25 = .ok (.getfield 217, 3) := by decide +kernel
theorem dX11_strengthOf_28 : decode cX11_strengthOf 28 = .ok (.iload_n 3, 1) := by decide +kernel
theorem dX11_strengthOf_29 : decode cX11_strengthOf 29 = .ok (.iaload, 1) := by decide +kernel
theorem dX11_strengthOf_30 : decode cX11_strengthOf 30 = .ok (.imul, 1) := by decide +kernel
theorem dX11_strengthOf_31 : decode cX11_strengthOf 31 = .ok (.iadd, 1) := by decide +kernel
theorem dX11_strengthOf_32 : decode cX11_strengthOf 32 = .ok (.istore_n 2, 1) := by decide +kernel
theorem dX11_strengthOf_33 : decode cX11_strengthOf 33 = .ok (.iinc 3 1, 3) := by decide +kernel
theorem dX11_strengthOf_36 : decode cX11_strengthOf 36 = .ok (.goto (-32), 3) := by decide +kernel
theorem dX11_strengthOf_39 : decode cX11_strengthOf 39 = .ok (.iload_n 2, 1) := by decide +kernel
theorem dX11_strengthOf_40 : decode cX11_strengthOf 40 = .ok (.ireturn, 1) := by decide +kernel
theorem dX11_needsEach_0 : decode cX11_needsEach 0 = .ok (.aload_n 0, 1) := by decide +kernel
theorem dX11_needsEach_1 : decode cX11_needsEach 1 = .ok (.iload_n 1, 1) := by decide +kernel
theorem dX11_needsEach_2 : decode cX11_needsEach 2 = .ok (.invokevirtual 343, 3) := by decide +kernel
theorem dX11_needsEach_5 : decode cX11_needsEach 5 = .ok (.istore_n 3, 1) := by decide +kernel
theorem dX11_needsEach_6 : decode cX11_needsEach 6 = .ok (.iconst 0, 1) := by decide +kernel
theorem dX11_needsEach_7 : decode cX11_needsEach 7 = .ok (.istore 4, 2) := by decide +kernel
theorem dX11_needsEach_9 : decode cX11_needsEach 9 = .ok (.iload 4, 2) := by decide +kernel
theorem dX11_needsEach_11 : decode cX11_needsEach 11 = .ok (.aload_n 0, 1) := by decide +kernel
theorem dX11_needsEach_12 : decode cX11_needsEach 12 = .ok (.getfield 19, 3) := by decide +kernel
theorem dX11_needsEach_15 : decode cX11_needsEach 15 = .ok (.getfield 143, 3) := by decide +kernel
theorem dX11_needsEach_18 : decode cX11_needsEach 18 = .ok (.if_icmp .ge 37, 3) := by decide +kernel
theorem dX11_needsEach_21 : decode cX11_needsEach 21 = .ok (.iload_n 1, 1) := by decide +kernel
theorem dX11_needsEach_22 : decode cX11_needsEach 22 = .ok (.iload 4, 2) := by decide +kernel
theorem dX11_needsEach_24 : decode cX11_needsEach 24 = .ok (.ishr, 1) := by decide +kernel
theorem dX11_needsEach_25 : decode cX11_needsEach 25 = .ok (.iconst 1, 1) := by decide +kernel
theorem dX11_needsEach_26 : decode cX11_needsEach 26 = .ok (.iand, 1) := by decide +kernel
theorem dX11_needsEach_27 : decode cX11_needsEach 27 = .ok (.iconst 1, 1) := by decide +kernel
theorem dX11_needsEach_28 : decode cX11_needsEach 28 = .ok (.if_icmp .ne 21, 3) := by decide +kernel
theorem dX11_needsEach_31 : decode cX11_needsEach 31 = .ok (.iload_n 3, 1) := by decide +kernel
theorem dX11_needsEach_32 : decode cX11_needsEach 32 = .ok (.aload_n 0, 1) := by decide +kernel
theorem dX11_needsEach_33 : decode cX11_needsEach 33 = .ok (.getfield 19, 3) := by decide +kernel
theorem dX11_needsEach_36 : decode cX11_needsEach 36 = .ok (.getfield 217, 3) := by decide +kernel
theorem dX11_needsEach_39 : decode cX11_needsEach 39 = .ok (.iload 4, 2) := by decide +kernel
theorem dX11_needsEach_41 : decode cX11_needsEach 41 = .ok (.iaload, 1) := by decide +kernel
theorem dX11_needsEach_42 : decode cX11_needsEach 42 = .ok (.isub, 1) := by decide +kernel
theorem dX11_needsEach_43 : decode cX11_needsEach 43 = .ok (.iload_n 2, 1) := by decide +kernel
theorem dX11_needsEach_44 : decode cX11_needsEach 44 = .ok (.if_icmp .lt 5, 3) := by decide +kernel
theorem dX11_needsEach_47 : decode cX11_needsEach 47 = .ok (.iconst 0, 1) := by decide +kernel
theorem dX11_needsEach_48 : decode cX11_needsEach 48 = .ok (.ireturn, 1) := by decide +kernel
theorem dX11_needsEach_49 : decode cX11_needsEach 49 = .ok (.iinc 4 1, 3) := by decide +kernel
theorem dX11_needsEach_52 : decode cX11_needsEach 52 = .ok (.goto (-43), 3) := by decide +kernel
theorem dX11_needsEach_55 : decode cX11_needsEach 55 = .ok (.iconst 1, 1) := by decide +kernel
theorem dX11_needsEach_56 : decode cX11_needsEach 56 = .ok (.ireturn, 1) := by decide +kernel
theorem dX11_balmGiven_0 : decode cX11_balmGiven 0 = .ok (.iconst 0, 1) := by decide +kernel
theorem dX11_balmGiven_1 : decode cX11_balmGiven 1 = .ok (.istore_n 3, 1) := by decide +kernel
theorem dX11_balmGiven_2 : decode cX11_balmGiven 2 = .ok (.iconst 0, 1) := by decide +kernel
theorem dX11_balmGiven_3 : decode cX11_balmGiven 3 = .ok (.istore 4, 2) := by decide +kernel
theorem dX11_balmGiven_5 : decode cX11_balmGiven 5 = .ok (.iload 4, 2) := by decide +kernel
theorem dX11_balmGiven_7 : decode cX11_balmGiven 7 = .ok (.aload_n 0, 1) := by decide +kernel
theorem dX11_balmGiven_8 : decode cX11_balmGiven 8 = .ok (.getfield 19, 3) := by decide +kernel
theorem dX11_balmGiven_11 : decode cX11_balmGiven 11 = .ok (.getfield 143, 3) := by decide +kernel
theorem dX11_balmGiven_14 : decode cX11_balmGiven 14 = .ok (.if_icmp .ge 33, 3) := by decide +kernel
theorem dX11_balmGiven_17 : decode cX11_balmGiven 17 = .ok (.iload_n 3, 1) := by decide +kernel
theorem dX11_balmGiven_18 : decode cX11_balmGiven 18 = .ok (.iload_n 1, 1) := by decide +kernel
theorem dX11_balmGiven_19 : decode cX11_balmGiven 19 = .ok (.iload 4, 2) := by decide +kernel
theorem dX11_balmGiven_21 : decode cX11_balmGiven 21 = .ok (.ishr, 1) := by decide +kernel
theorem dX11_balmGiven_22 : decode cX11_balmGiven 22 = .ok (.iconst 1, 1) := by decide +kernel
theorem dX11_balmGiven_23 : decode cX11_balmGiven 23 = .ok (.iand, 1) := by decide +kernel
theorem dX11_balmGiven_24 : decode cX11_balmGiven 24 = .ok (.aload_n 0, 1) := by decide +kernel
theorem dX11_balmGiven_25 : decode cX11_balmGiven 25 = .ok (.getfield 73, 3) := by decide +kernel
theorem dX11_balmGiven_28 : decode cX11_balmGiven 28 = .ok (.getfield 224, 3) := by decide +kernel
theorem dX11_balmGiven_31 : decode cX11_balmGiven 31 = .ok (.iload 4, 2) := by decide +kernel
theorem dX11_balmGiven_33 : decode cX11_balmGiven 33 = .ok (.iaload, 1) := by decide +kernel
theorem dX11_balmGiven_34 : decode cX11_balmGiven 34 = .ok (.iload_n 2, 1) := by decide +kernel
theorem dX11_balmGiven_35 : decode cX11_balmGiven 35 = .ok (.invokestatic 383, 3) := by decide +kernel
theorem dX11_balmGiven_38 : decode cX11_balmGiven 38 = .ok (.imul, 1) := by decide +kernel
theorem dX11_balmGiven_39 : decode cX11_balmGiven 39 = .ok (.iadd, 1) := by decide +kernel
theorem dX11_balmGiven_40 : decode cX11_balmGiven 40 = .ok (.istore_n 3, 1) := by decide +kernel
theorem dX11_balmGiven_41 : decode cX11_balmGiven 41 = .ok (.iinc 4 1, 3) := by decide +kernel
theorem dX11_balmGiven_44 : decode cX11_balmGiven 44 = .ok (.goto (-39), 3) := by decide +kernel
theorem dX11_balmGiven_47 : decode cX11_balmGiven 47 = .ok (.iload_n 3, 1) := by decide +kernel
theorem dX11_balmGiven_48 : decode cX11_balmGiven 48 = .ok (.ireturn, 1) := by decide +kernel
theorem dX11_choices_0 : decode cX11_choices 0 = .ok (.lconst 1, 1) := by decide +kernel
theorem dX11_choices_1 : decode cX11_choices 1 = .ok (.lstore_n 2, 1) := by decide +kernel
theorem dX11_choices_2 : decode cX11_choices 2 = .ok (.iconst 0, 1) := by decide +kernel
theorem dX11_choices_3 : decode cX11_choices 3 = .ok (.istore 4, 2) := by decide +kernel
theorem dX11_choices_5 : decode cX11_choices 5 = .ok (.iload 4, 2) := by decide +kernel
theorem dX11_choices_7 : decode cX11_choices 7 = .ok (.iload_n 1, 1) := by decide +kernel
theorem dX11_choices_8 : decode cX11_choices 8 = .ok (.if_icmp .ge 23, 3) := by decide +kernel
theorem dX11_choices_11 : decode cX11_choices 11 = .ok (.lload_n 2, 1) := by decide +kernel
theorem dX11_choices_12 : decode cX11_choices 12 = .ok (.iload_n 0, 1) := by decide +kernel
theorem dX11_choices_13 : decode cX11_choices 13 = .ok (.iload 4, 2) := by decide +kernel
theorem dX11_choices_15 : decode cX11_choices 15 = .ok (.isub, 1) := by decide +kernel
theorem dX11_choices_16 : decode cX11_choices 16 = .ok (.i2l, 1) := by decide +kernel
theorem dX11_choices_17 : decode cX11_choices 17 = .ok (.lmul, 1) := by decide +kernel
theorem dX11_choices_18 : decode cX11_choices 18 = .ok (.iload 4, 2) := by decide +kernel
theorem dX11_choices_20 : decode cX11_choices 20 = .ok (.iconst 1, 1) := by decide +kernel
theorem dX11_choices_21 : decode cX11_choices 21 = .ok (.iadd, 1) := by decide +kernel
theorem dX11_choices_22 : decode cX11_choices 22 = .ok (.i2l, 1) := by decide +kernel
theorem dX11_choices_23 : decode cX11_choices 23 = .ok (.ldiv, 1) := by decide +kernel
theorem dX11_choices_24 : decode cX11_choices 24 = .ok (.lstore_n 2, 1) := by decide +kernel
theorem dX11_choices_25 : decode cX11_choices 25 = .ok (.iinc 4 1, 3) := by decide +kernel
theorem dX11_choices_28 : decode cX11_choices 28 = .ok (.goto (-23), 3) := by decide +kernel
theorem dX11_choices_31 : decode cX11_choices 31 = .ok (.lload_n 2, 1) := by decide +kernel
theorem dX11_choices_32 : decode cX11_choices 32 = .ok (.lreturn, 1) := by decide +kernel
theorem dX11_power_0 : decode cX11_power 0 = .ok (.lconst 1, 1) := by decide +kernel
theorem dX11_power_1 : decode cX11_power 1 = .ok (.lstore_n 2, 1) := by decide +kernel
theorem dX11_power_2 : decode cX11_power 2 = .ok (.iconst 0, 1) := by decide +kernel
theorem dX11_power_3 : decode cX11_power 3 = .ok (.istore 4, 2) := by decide +kernel
theorem dX11_power_5 : decode cX11_power 5 = .ok (.iload 4, 2) := by decide +kernel
theorem dX11_power_7 : decode cX11_power 7 = .ok (.iload_n 1, 1) := by decide +kernel
theorem dX11_power_8 : decode cX11_power 8 = .ok (.if_icmp .ge 14, 3) := by decide +kernel
theorem dX11_power_11 : decode cX11_power 11 = .ok (.lload_n 2, 1) := by decide +kernel
theorem dX11_power_12 : decode cX11_power 12 = .ok (.iload_n 0, 1) := by decide +kernel
theorem dX11_power_13 : decode cX11_power 13 = .ok (.i2l, 1) := by decide +kernel
theorem dX11_power_14 : decode cX11_power 14 = .ok (.lmul, 1) := by decide +kernel
theorem dX11_power_15 : decode cX11_power 15 = .ok (.lstore_n 2, 1) := by decide +kernel
theorem dX11_power_16 : decode cX11_power 16 = .ok (.iinc 4 1, 3) := by decide +kernel
theorem dX11_power_19 : decode cX11_power 19 = .ok (.goto (-14), 3) := by decide +kernel
theorem dX11_power_22 : decode cX11_power 22 = .ok (.lload_n 2, 1) := by decide +kernel
theorem dX11_power_23 : decode cX11_power 23 = .ok (.lreturn, 1) := by decide +kernel
theorem dX11_hasBy_0 : decode cX11_hasBy 0 = .ok (.iload_n 0, 1) := by decide +kernel
theorem dX11_hasBy_1 : decode cX11_hasBy 1 = .ok (.iload_n 1, 1) := by decide +kernel
theorem dX11_hasBy_2 : decode cX11_hasBy 2 = .ok (.if_icmp .ne 5, 3) := by decide +kernel
theorem dX11_hasBy_5 : decode cX11_hasBy 5 = .ok (.iconst 0, 1) := by decide +kernel
theorem dX11_hasBy_6 : decode cX11_hasBy 6 = .ok (.ireturn, 1) := by decide +kernel
theorem dX11_hasBy_7 : decode cX11_hasBy 7 = .ok (.iload_n 0, 1) := by decide +kernel
theorem dX11_hasBy_8 : decode cX11_hasBy 8 = .ok (.ifCond .ne 7, 3) := by decide +kernel
theorem dX11_hasBy_11 : decode cX11_hasBy 11 = .ok (.iload_n 2, 1) := by decide +kernel
theorem dX11_hasBy_12 : decode cX11_hasBy 12 = .ok (.goto 5, 3) := by decide +kernel
theorem dX11_hasBy_15 : decode cX11_hasBy 15 = .ok (.iload_n 3, 1) := by decide +kernel
theorem dX11_hasBy_16 : decode cX11_hasBy 16 = .ok (.ineg, 1) := by decide +kernel
theorem dX11_hasBy_17 : decode cX11_hasBy 17 = .ok (.ireturn, 1) := by decide +kernel
theorem dX11_isRest_0 : decode cX11_isRest 0 = .ok (.iload_n 0, 1) := by decide +kernel
theorem dX11_isRest_1 : decode cX11_isRest 1 = .ok (.iload_n 1, 1) := by decide +kernel
theorem dX11_isRest_2 : decode cX11_isRest 2 = .ok (.iload_n 2, 1) := by decide +kernel
theorem dX11_isRest_3 : decode cX11_isRest 3 = .ok (.iload_n 3, 1) := by decide +kernel
theorem dX11_isRest_4 : decode cX11_isRest 4 = .ok (.invokestatic 363, 3) := by decide +kernel
theorem dX11_isRest_7 : decode cX11_isRest 7 = .ok (.iconst 1, 1) := by decide +kernel
theorem dX11_isRest_8 : decode cX11_isRest 8 = .ok (.iload_n 0, 1) := by decide +kernel
theorem dX11_isRest_9 : decode cX11_isRest 9 = .ok (.isub, 1) := by decide +kernel
theorem dX11_isRest_10 : decode cX11_isRest 10 = .ok (.iload_n 1, 1) := by decide +kernel
theorem dX11_isRest_11 : decode cX11_isRest 11 = .ok (.iload_n 2, 1) := by decide +kernel
theorem dX11_isRest_12 : decode cX11_isRest 12 = .ok (.iload_n 3, 1) := by decide +kernel
theorem dX11_isRest_13 : decode cX11_isRest 13 = .ok (.invokestatic 363, 3) := by decide +kernel
theorem dX11_isRest_16 : decode cX11_isRest 16 = .ok (.if_icmp .lt 26, 3) := by decide +kernel
theorem dX11_isRest_19 : decode cX11_isRest 19 = .ok (.iload_n 1, 1) := by decide +kernel
theorem dX11_isRest_20 : decode cX11_isRest 20 = .ok (.iload_n 0, 1) := by decide +kernel
theorem dX11_isRest_21 : decode cX11_isRest 21 = .ok (.iload_n 2, 1) := by decide +kernel
theorem dX11_isRest_22 : decode cX11_isRest 22 = .ok (.iload_n 3, 1) := by decide +kernel
theorem dX11_isRest_23 : decode cX11_isRest 23 = .ok (.invokestatic 363, 3) := by decide +kernel
theorem dX11_isRest_26 : decode cX11_isRest 26 = .ok (.iconst 1, 1) := by decide +kernel
theorem dX11_isRest_27 : decode cX11_isRest 27 = .ok (.iload_n 1, 1) := by decide +kernel
theorem dX11_isRest_28 : decode cX11_isRest 28 = .ok (.isub, 1) := by decide +kernel
theorem dX11_isRest_29 : decode cX11_isRest 29 = .ok (.iload_n 0, 1) := by decide +kernel
theorem dX11_isRest_30 : decode cX11_isRest 30 = .ok (.iload_n 2, 1) := by decide +kernel
theorem dX11_isRest_31 : decode cX11_isRest 31 = .ok (.iload_n 3, 1) := by decide +kernel
theorem dX11_isRest_32 : decode cX11_isRest 32 = .ok (.invokestatic 363, 3) := by decide +kernel
theorem dX11_isRest_35 : decode cX11_isRest 35 = .ok (.if_icmp .lt 7, 3) := by decide +kernel
theorem dX11_isRest_38 : decode cX11_isRest 38 = .ok (.iconst 1, 1) := by decide +kernel
theorem dX11_isRest_39 : decode cX11_isRest 39 = .ok (.goto 4, 3) := by decide +kernel
theorem dX11_isRest_42 : decode cX11_isRest 42 = .ok (.iconst 0, 1) := by decide +kernel
theorem dX11_isRest_43 : decode cX11_isRest 43 = .ok (.ireturn, 1) := by decide +kernel
end Dec
