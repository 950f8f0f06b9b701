theorem kbl {a b : Bool} (h : (a && b) = true) : a = true := (Bool.and_eq_true_iff.mp h).1
theorem kbr {a b : Bool} (h : (a && b) = true) : b = true := (Bool.and_eq_true_iff.mp h).2
theorem kdo {p : Prop} [Decidable p] (h : decide p = true) : p := of_decide_eq_true h
set_option maxRecDepth 20000 in
theorem kdX0_init_0 : (decide (decode cX0_init 0 = .ok (.aload_n 0, 1)) && (decide (decode cX0_init 1 = .ok (.invokespecial 3, 3)) && (decide (decode cX0_init 4 = .ok (.aload_n 0, 1)) && (decide (decode cX0_init 5 = .ok (.bipush 21, 2)) && (decide (decode cX0_init 7 = .ok (.newarray .int, 2)) && (decide (decode cX0_init 9 = .ok (.putfield 9, 3)) && (decide (decode cX0_init 12 = .ok (.aload_n 0, 1)) && (decide (decode cX0_init 13 = .ok (.iconst 0, 1)) && (decide (decode cX0_init 14 = .ok (.putfield 15, 3)) && decide (decode cX0_init 17 = .ok (.return_, 1))))))))))) = true := by decide +kernel
theorem dX0_init_0 : decode cX0_init 0 = .ok (.aload_n 0, 1) := kdo (kbl kdX0_init_0)
theorem dX0_init_1 : decode cX0_init 1 = .ok (.invokespecial 3, 3) := kdo (kbl (kbr kdX0_init_0))
theorem dX0_init_4 : decode cX0_init 4 = .ok (.aload_n 0, 1) := kdo (kbl (kbr (kbr kdX0_init_0)))
theorem dX0_init_5 : decode cX0_init 5 = .ok (.bipush 21, 2) := kdo (kbl (kbr (kbr (kbr kdX0_init_0))))
theorem dX0_init_7 : decode cX0_init 7 = .ok (.newarray .int, 2) := kdo (kbl (kbr (kbr (kbr (kbr kdX0_init_0)))))
theorem dX0_init_9 : decode cX0_init 9 = .ok (.putfield 9, 3) := kdo (kbl (kbr (kbr (kbr (kbr (kbr kdX0_init_0))))))
theorem dX0_init_12 : decode cX0_init 12 = .ok (.aload_n 0, 1) := kdo (kbl (kbr (kbr (kbr (kbr (kbr (kbr kdX0_init_0)))))))
theorem dX0_init_13 : decode cX0_init 13 = .ok (.iconst 0, 1) := kdo (kbl (kbr (kbr (kbr (kbr (kbr (kbr (kbr kdX0_init_0))))))))
theorem dX0_init_14 : decode cX0_init 14 = .ok (.putfield 15, 3) := kdo (kbl (kbr (kbr (kbr (kbr (kbr (kbr (kbr (kbr kdX0_init_0)))))))))
theorem dX0_init_17 : decode cX0_init 17 = .ok (.return_, 1) := kdo (kbr (kbr (kbr (kbr (kbr (kbr (kbr (kbr (kbr kdX0_init_0)))))))))
set_option maxRecDepth 20000 in
theorem kdX0_add_0 : (decide (decode cX0_add 0 = .ok (.aload_n 0, 1)) && (decide (decode cX0_add 1 = .ok (.getfield 15, 3)) && (decide (decode cX0_add 4 = .ok (.ifCond .lt 15, 3)) && (decide (decode cX0_add 7 = .ok (.aload_n 0, 1)) && (decide (decode cX0_add 8 = .ok (.getfield 15, 3)) && (decide (decode cX0_add 11 = .ok (.aload_n 0, 1)) && (decide (decode cX0_add 12 = .ok (.getfield 9, 3)) && (decide (decode cX0_add 15 = .ok (.arraylength, 1)) && (decide (decode cX0_add 16 = .ok (.if_icmp .lt 5, 3)) && (decide (decode cX0_add 19 = .ok (.iconst 0, 1)) && (decide (decode cX0_add 20 = .ok (.ireturn, 1)) && (decide (decode cX0_add 21 = .ok (.aload_n 0, 1)) && (decide (decode cX0_add 22 = .ok (.getfield 9, 3)) && (decide (decode cX0_add 25 = .ok (.aload_n 0, 1)) && (decide (decode cX0_add 26 = .ok (.getfield 15, 3)) && (decide (decode cX0_add 29 = .ok (.iload_n 1, 1)) && (decide (decode cX0_add 30 = .ok (.iastore, 1)) && (decide (decode cX0_add 31 = .ok (.aload_n 0, 1)) && (decide (decode cX0_add 32 = .ok (.dup, 1)) && (decide (decode cX0_add 33 = .ok (.getfield 15, 3)) && (decide (decode cX0_add 36 = .ok (.iconst 1, 1)) && (decide (decode cX0_add 37 = .ok (.iadd, 1)) && (decide (decode cX0_add 38 = .ok (.putfield 15, 3)) && decide (decode cX0_add 41 = .ok (.iconst 1, 1))))))))))))))))))))))))) = true := by decide +kernel
theorem dX0_add_0 : decode cX0_add 0 = .ok (.aload_n 0, 1) := kdo (kbl kdX0_add_0)
theorem dX0_add_1 : decode cX0_add 1 = .ok (.getfield 15, 3) := kdo (kbl (kbr kdX0_add_0))
theorem dX0_add_4 : decode cX0_add 4 = .ok (.ifCond .lt 15, 3) := kdo (kbl (kbr (kbr kdX0_add_0)))
theorem dX0_add_7 : decode cX0_add 7 = .ok (.aload_n 0, 1) := kdo (kbl (kbr (kbr (kbr kdX0_add_0))))
theorem dX0_add_8 : decode cX0_add 8 = .ok (.getfield 15, 3) := kdo (kbl (kbr (kbr (kbr (kbr kdX0_add_0)))))
theorem dX0_add_11 : decode cX0_add 11 = .ok (.aload_n 0, 1) := kdo (kbl (kbr (kbr (kbr (kbr (kbr kdX0_add_0))))))
theorem dX0_add_12 : decode cX0_add 12 = .ok (.getfield 9, 3) := kdo (kbl (kbr (kbr (kbr (kbr (kbr (kbr kdX0_add_0)))))))
theorem dX0_add_15 : decode cX0_add 15 = .ok (.arraylength, 1) := kdo (kbl (kbr (kbr (kbr (kbr (kbr (kbr (kbr kdX0_add_0))))))))
theorem dX0_add_16 : decode cX0_add 16 = .ok (.if_icmp .lt 5, 3) := kdo (kbl (kbr (kbr (kbr (kbr (kbr (kbr (kbr (kbr kdX0_add_0)))))))))
theorem dX0_add_19 : decode cX0_add 19 = .ok (.iconst 0, 1) := kdo (kbl (kbr (kbr (kbr (kbr (kbr (kbr (kbr (kbr (kbr kdX0_add_0))))))))))
theorem dX0_add_20 : decode cX0_add 20 = .ok (.ireturn, 1) := kdo (kbl (kbr (kbr (kbr (kbr (kbr (kbr (kbr (kbr (kbr (kbr kdX0_add_0)))))))))))
theorem dX0_add_21 : decode cX0_add 21 = .ok (.aload_n 0, 1) := kdo (kbl (kbr (kbr (kbr (kbr (kbr (kbr (kbr (kbr (kbr (kbr (kbr kdX0_add_0))))))))))))
theorem dX0_add_22 : decode cX0_add 22 = .ok (.getfield 9, 3) := kdo (kbl (kbr (kbr (kbr (kbr (kbr (kbr (kbr (kbr (kbr (kbr (kbr (kbr kdX0_add_0)))))))))))))
theorem dX0_add_25 : decode cX0_add 25 = .ok (.aload_n 0, 1) := kdo (kbl (kbr (kbr (kbr (kbr (kbr (kbr (kbr (kbr (kbr (kbr (kbr (kbr (kbr kdX0_add_0))))))))))))))
theorem dX0_add_26 : decode cX0_add 26 = .ok (.getfield 15, 3) := kdo (kbl (kbr (kbr (kbr (kbr (kbr (kbr (kbr (kbr (kbr (kbr (kbr (kbr (kbr (kbr kdX0_add_0)))))))))))))))
theorem dX0_add_29 : decode cX0_add 29 = .ok (.iload_n 1, 1) := kdo (kbl (kbr (kbr (kbr (kbr (kbr (kbr (kbr (kbr (kbr (kbr (kbr (kbr (kbr (kbr (kbr kdX0_add_0))))))))))))))))
theorem dX0_add_30 : decode cX0_add 30 = .ok (.iastore, 1) := kdo (kbl (kbr (kbr (kbr (kbr (kbr (kbr (kbr (kbr (kbr (kbr (kbr (kbr (kbr (kbr (kbr (kbr kdX0_add_0)))))))))))))))))
theorem dX0_add_31 : decode cX0_add 31 = .ok (.aload_n 0, 1) := kdo (kbl (kbr (kbr (kbr (kbr (kbr (kbr (kbr (kbr (kbr (kbr (kbr (kbr (kbr (kbr (kbr (kbr (kbr kdX0_add_0))))))))))))))))))
theorem dX0_add_32 : decode cX0_add 32 = .ok (.dup, 1) := kdo (kbl (kbr (kbr (kbr (kbr (kbr (kbr (kbr (kbr (kbr (kbr (kbr (kbr (kbr (kbr (kbr (kbr (kbr (kbr kdX0_add_0)))))))))))))))))))
theorem dX0_add_33 : decode cX0_add 33 = .ok (.getfield 15, 3) := kdo (kbl (kbr (kbr (kbr (kbr (kbr (kbr (kbr (kbr (kbr (kbr (kbr (kbr (kbr (kbr (kbr (kbr (kbr (kbr (kbr kdX0_add_0))))))))))))))))))))
theorem dX0_add_36 : decode cX0_add 36 = .ok (.iconst 1, 1) := kdo (kbl (kbr (kbr (kbr (kbr (kbr (kbr (kbr (kbr (kbr (kbr (kbr (kbr (kbr (kbr (kbr (kbr (kbr (kbr (kbr (kbr kdX0_add_0)))))))))))))))))))))
theorem dX0_add_37 : decode cX0_add 37 = .ok (.iadd, 1) := kdo (kbl (kbr (kbr (kbr (kbr (kbr (kbr (kbr (kbr (kbr (kbr (kbr (kbr (kbr (kbr (kbr (kbr (kbr (kbr (kbr (kbr (kbr kdX0_add_0))))))))))))))))))))))
theorem dX0_add_38 : decode cX0_add 38 = .ok (.putfield 15, 3) := kdo (kbl (kbr (kbr (kbr (kbr (kbr (kbr (kbr (kbr (kbr (kbr (kbr (kbr (kbr (kbr (kbr (kbr (kbr (kbr (kbr (kbr (kbr (kbr kdX0_add_0)))))))))))))))))))))))
theorem dX0_add_41 : decode cX0_add 41 = .ok (.iconst 1, 1) := kdo (kbr (kbr (kbr (kbr (kbr (kbr (kbr (kbr (kbr (kbr (kbr (kbr (kbr (kbr (kbr (kbr (kbr (kbr (kbr (kbr (kbr (kbr (kbr kdX0_add_0)))))))))))))))))))))))
theorem dX0_add_42 : decode cX0_add 42 = .ok (.ireturn, 1) := by decide +kernel
set_option maxRecDepth 20000 in
theorem kdX0_clear_0 : (decide (decode cX0_clear 0 = .ok (.aload_n 0, 1)) && (decide (decode cX0_clear 1 = .ok (.getfield 15, 3)) && (decide (decode cX0_clear 4 = .ok (.istore_n 1, 1)) && (decide (decode cX0_clear 5 = .ok (.aload_n 0, 1)) && (decide (decode cX0_clear 6 = .ok (.iconst 0, 1)) && (decide (decode cX0_clear 7 = .ok (.putfield 15, 3)) && (decide (decode cX0_clear 10 = .ok (.iload_n 1, 1)) && decide (decode cX0_clear 11 = .ok (.ireturn, 1))))))))) = true := by decide +kernel
theorem dX0_clear_0 : decode cX0_clear 0 = .ok (.aload_n 0, 1) := kdo (kbl kdX0_clear_0)
theorem dX0_clear_1 : decode cX0_clear 1 = .ok (.getfield 15, 3) := kdo (kbl (kbr kdX0_clear_0))
theorem dX0_clear_4 : decode cX0_clear 4 = .ok (.istore_n 1, 1) := kdo (kbl (kbr (kbr kdX0_clear_0)))
theorem dX0_clear_5 : decode cX0_clear 5 = .ok (.aload_n 0, 1) := kdo (kbl (kbr (kbr (kbr kdX0_clear_0))))
theorem dX0_clear_6 : decode cX0_clear 6 = .ok (.iconst 0, 1) := kdo (kbl (kbr (kbr (kbr (kbr kdX0_clear_0)))))
theorem dX0_clear_7 : decode cX0_clear 7 = .ok (.putfield 15, 3) := kdo (kbl (kbr (kbr (kbr (kbr (kbr kdX0_clear_0))))))
theorem dX0_clear_10 : decode cX0_clear 10 = .ok (.iload_n 1, 1) := kdo (kbl (kbr (kbr (kbr (kbr (kbr (kbr kdX0_clear_0)))))))
theorem dX0_clear_11 : decode cX0_clear 11 = .ok (.ireturn, 1) := kdo (kbr (kbr (kbr (kbr (kbr (kbr (kbr kdX0_clear_0)))))))
set_option maxRecDepth 20000 in
theorem kdX0_faultPlace_0 : (decide (decode cX0_faultPlace 0 = .ok (.iconst (-1), 1)) && (decide (decode cX0_faultPlace 1 = .ok (.istore_n 1, 1)) && (decide (decode cX0_faultPlace 2 = .ok (.iconst 0, 1)) && (decide (decode cX0_faultPlace 3 = .ok (.istore_n 2, 1)) && (decide (decode cX0_faultPlace 4 = .ok (.iload_n 2, 1)) && (decide (decode cX0_faultPlace 5 = .ok (.aload_n 0, 1)) && (decide (decode cX0_faultPlace 6 = .ok (.getfield 15, 3)) && (decide (decode cX0_faultPlace 9 = .ok (.if_icmp .ge 63, 3)) && (decide (decode cX0_faultPlace 12 = .ok (.iload_n 1, 1)) && (decide (decode cX0_faultPlace 13 = .ok (.iconst (-1), 1)) && (decide (decode cX0_faultPlace 14 = .ok (.if_icmp .ne 11, 3)) && (decide (decode cX0_faultPlace 17 = .ok (.aload_n 0, 1)) && (decide (decode cX0_faultPlace 18 = .ok (.iload_n 2, 1)) && (decide (decode cX0_faultPlace 19 = .ok (.invokevirtual 19, 3)) && (decide (decode cX0_faultPlace 22 = .ok (.goto 25, 3)) && (decide (decode cX0_faultPlace 25 = .ok (.iload_n 2, 1)) && (decide (decode cX0_faultPlace 26 = .ok (.iload_n 1, 1)) && (decide (decode cX0_faultPlace 27 = .ok (.iconst 1, 1)) && (decide (decode cX0_faultPlace 28 = .ok (.iadd, 1)) && (decide (decode cX0_faultPlace 29 = .ok (.if_icmp .ne 17, 3)) && (decide (decode cX0_faultPlace 32 = .ok (.aload_n 0, 1)) && (decide (decode cX0_faultPlace 33 = .ok (.bipush 48, 2)) && (decide (decode cX0_faultPlace 35 = .ok (.iload_n 2, 1)) && decide (decode cX0_faultPlace 36 = .ok (.invokevirtual 23, 3))))))))))))))))))))))))) = true := by decide +kernel
theorem dX0_faultPlace_0 : decode cX0_faultPlace 0 = .ok (.iconst (-1), 1) := kdo (kbl kdX0_faultPlace_0)
theorem dX0_faultPlace_1 : decode cX0_faultPlace 1 = .ok (.istore_n 1, 1) := kdo (kbl (kbr kdX0_faultPlace_0))
theorem dX0_faultPlace_2 : decode cX0_faultPlace 2 = .ok (.iconst 0, 1) := kdo (kbl (kbr (kbr kdX0_faultPlace_0)))
theorem dX0_faultPlace_3 : decode cX0_faultPlace 3 = .ok (.istore_n 2, 1) := kdo (kbl (kbr (kbr (kbr kdX0_faultPlace_0))))
theorem dX0_faultPlace_4 : decode cX0_faultPlace 4 = .ok (.iload_n 2, 1) := kdo (kbl (kbr (kbr (kbr (kbr kdX0_faultPlace_0)))))
theorem dX0_faultPlace_5 : decode cX0_faultPlace 5 = .ok (.aload_n 0, 1) := kdo (kbl (kbr (kbr (kbr (kbr (kbr kdX0_faultPlace_0))))))
theorem dX0_faultPlace_6 : decode cX0_faultPlace 6 = .ok (.getfield 15, 3) := kdo (kbl (kbr (kbr (kbr (kbr (kbr (kbr kdX0_faultPlace_0)))))))
theorem dX0_faultPlace_9 : decode cX0_faultPlace 9 = .ok (.if_icmp .ge 63, 3) := kdo (kbl (kbr (kbr (kbr (kbr (kbr (kbr (kbr kdX0_faultPlace_0))))))))
theorem dX0_faultPlace_12 : decode cX0_faultPlace 12 = .ok (.iload_n 1, 1) := kdo (kbl (kbr (kbr (kbr (kbr (kbr (kbr (kbr (kbr kdX0_faultPlace_0)))))))))
theorem dX0_faultPlace_13 : decode cX0_faultPlace 13 = .ok (.iconst (-1), 1) := kdo (kbl (kbr (kbr (kbr (kbr (kbr (kbr (kbr (kbr (kbr kdX0_faultPlace_0))))))))))
theorem dX0_faultPlace_14 : decode cX0_faultPlace 14 = .ok (.if_icmp .ne 11, 3) := kdo (kbl (kbr (kbr (kbr (kbr (kbr (kbr (kbr (kbr (kbr (kbr kdX0_faultPlace_0)))))))))))
theorem dX0_faultPlace_17 : decode cX0_faultPlace 17 = .ok (.aload_n 0, 1) := kdo (kbl (kbr (kbr (kbr (kbr (kbr (kbr (kbr (kbr (kbr (kbr (kbr kdX0_faultPlace_0))))))))))))
theorem dX0_faultPlace_18 : decode cX0_faultPlace 18 = .ok (.iload_n 2, 1) := kdo (kbl (kbr (kbr (kbr (kbr (kbr (kbr (kbr (kbr (kbr (kbr (kbr (kbr kdX0_faultPlace_0)))))))))))))
theorem dX0_faultPlace_19 : decode cX0_faultPlace 19 = .ok (.invokevirtual 19, 3) := kdo (kbl (kbr (kbr (kbr (kbr (kbr (kbr (kbr (kbr (kbr (kbr (kbr (kbr (kbr kdX0_faultPlace_0))))))))))))))
theorem dX0_faultPlace_22 : decode cX0_faultPlace 22 = .ok (.goto 25, 3) := kdo (kbl (kbr (kbr (kbr (kbr (kbr (kbr (kbr (kbr (kbr (kbr (kbr (kbr (kbr (kbr kdX0_faultPlace_0)))))))))))))))
theorem dX0_faultPlace_25 : decode cX0_faultPlace 25 = .ok (.iload_n 2, 1) := kdo (kbl (kbr (kbr (kbr (kbr (kbr (kbr (kbr (kbr (kbr (kbr (kbr (kbr (kbr (kbr (kbr kdX0_faultPlace_0))))))))))))))))
theorem dX0_faultPlace_26 : decode cX0_faultPlace 26 = .ok (.iload_n 1, 1) := kdo (kbl (kbr (kbr (kbr (kbr (kbr (kbr (kbr (kbr (kbr (kbr (kbr (kbr (kbr (kbr (kbr (kbr kdX0_faultPlace_0)))))))))))))))))
theorem dX0_faultPlace_27 : decode cX0_faultPlace 27 = .ok (.iconst 1, 1) := kdo (kbl (kbr (kbr (kbr (kbr (kbr (kbr (kbr (kbr (kbr (kbr (kbr (kbr (kbr (kbr (kbr (kbr (kbr kdX0_faultPlace_0))))))))))))))))))
theorem dX0_faultPlace_28 : decode cX0_faultPlace 28 = .ok (.iadd, 1) := kdo (kbl (kbr (kbr (kbr (kbr (kbr (kbr (kbr (kbr (kbr (kbr (kbr (kbr (kbr (kbr (kbr (kbr (kbr (kbr kdX0_faultPlace_0)))))))))))))))))))
theorem dX0_faultPlace_29 : decode cX0_faultPlace 29 = .ok (.if_icmp .ne 17, 3) := kdo (kbl (kbr (kbr (kbr (kbr (kbr (kbr (kbr (kbr (kbr (kbr (kbr (kbr (kbr (kbr (kbr (kbr (kbr (kbr (kbr kdX0_faultPlace_0))))))))))))))))))))
theorem dX0_faultPlace_32 : decode cX0_faultPlace 32 = .ok (.aload_n 0, 1) := kdo (kbl (kbr (kbr (kbr (kbr (kbr (kbr (kbr (kbr (kbr (kbr (kbr (kbr (kbr (kbr (kbr (kbr (kbr (kbr (kbr (kbr kdX0_faultPlace_0)))))))))))))))))))))
theorem dX0_faultPlace_33 : decode cX0_faultPlace 33 = .ok (.bipush 48, 2) := kdo (kbl (kbr (kbr (kbr (kbr (kbr (kbr (kbr (kbr (kbr (kbr (kbr (kbr (kbr (kbr (kbr (kbr (kbr (kbr (kbr (kbr (kbr kdX0_faultPlace_0))))))))))))))))))))))
theorem dX0_faultPlace_35 : decode cX0_faultPlace 35 = .ok (.iload_n 2, 1) := kdo (kbl (kbr (kbr (kbr (kbr (kbr (kbr (kbr (kbr (kbr (kbr (kbr (kbr (kbr (kbr (kbr (kbr (kbr (kbr (kbr (kbr (kbr (kbr kdX0_faultPlace_0)))))))))))))))))))))))
theorem dX0_faultPlace_36 : decode cX0_faultPlace 36 = .ok (.invokevirtual 23, 3) := kdo (kbr (kbr (kbr (kbr (kbr (kbr (kbr (kbr (kbr (kbr (kbr (kbr (kbr (kbr (kbr (kbr (kbr (kbr (kbr (kbr (kbr (kbr (kbr kdX0_faultPlace_0)))))))))))))))))))))))
set_option maxRecDepth 20000 in
theorem kdX0_faultPlace_39 : (decide (decode cX0_faultPlace 39 = .ok (.ifCond .eq 7, 3)) && (decide (decode cX0_faultPlace 42 = .ok (.iconst 1, 1)) && (decide (decode cX0_faultPlace 43 = .ok (.goto 4, 3)) && (decide (decode cX0_faultPlace 46 = .ok (.iconst 0, 1)) && (decide (decode cX0_faultPlace 47 = .ok (.istore_n 3, 1)) && (decide (decode cX0_faultPlace 48 = .ok (.iload_n 3, 1)) && (decide (decode cX0_faultPlace 49 = .ok (.ifCond .ne 5, 3)) && (decide (decode cX0_faultPlace 52 = .ok (.iload_n 2, 1)) && (decide (decode cX0_faultPlace 53 = .ok (.ireturn, 1)) && (decide (decode cX0_faultPlace 54 = .ok (.aload_n 0, 1)) && (decide (decode cX0_faultPlace 55 = .ok (.iload_n 2, 1)) && (decide (decode cX0_faultPlace 56 = .ok (.invokevirtual 27, 3)) && (decide (decode cX0_faultPlace 59 = .ok (.bipush 59, 2)) && (decide (decode cX0_faultPlace 61 = .ok (.if_icmp .ne 5, 3)) && (decide (decode cX0_faultPlace 64 = .ok (.iload_n 2, 1)) && (decide (decode cX0_faultPlace 65 = .ok (.istore_n 1, 1)) && (decide (decode cX0_faultPlace 66 = .ok (.iinc 2 1, 3)) && (decide (decode cX0_faultPlace 69 = .ok (.goto (-65), 3)) && (decide (decode cX0_faultPlace 72 = .ok (.aload_n 0, 1)) && (decide (decode cX0_faultPlace 73 = .ok (.getfield 15, 3)) && decide (decode cX0_faultPlace 76 = .ok (.ireturn, 1)))))))))))))))))))))) = true := by decide +kernel
theorem dX0_faultPlace_39 : decode cX0_faultPlace 39 = .ok (.ifCond .eq 7, 3) := kdo (kbl kdX0_faultPlace_39)
theorem dX0_faultPlace_42 : decode cX0_faultPlace 42 = .ok (.iconst 1, 1) := kdo (kbl (kbr kdX0_faultPlace_39))
theorem dX0_faultPlace_43 : decode cX0_faultPlace 43 = .ok (.goto 4, 3) := kdo (kbl (kbr (kbr kdX0_faultPlace_39)))
theorem dX0_faultPlace_46 : decode cX0_faultPlace 46 = .ok (.iconst 0, 1) := kdo (kbl (kbr (kbr (kbr kdX0_faultPlace_39))))
theorem dX0_faultPlace_47 : decode cX0_faultPlace 47 = .ok (.istore_n 3, 1) := kdo (kbl (kbr (kbr (kbr (kbr kdX0_faultPlace_39)))))
theorem dX0_faultPlace_48 : decode cX0_faultPlace 48 = .ok (.iload_n 3, 1) := kdo (kbl (kbr (kbr (kbr (kbr (kbr kdX0_faultPlace_39))))))
theorem dX0_faultPlace_49 : decode cX0_faultPlace 49 = .ok (.ifCond .ne 5, 3) := kdo (kbl (kbr (kbr (kbr (kbr (kbr (kbr kdX0_faultPlace_39)))))))
theorem dX0_faultPlace_52 : decode cX0_faultPlace 52 = .ok (.iload_n 2, 1) := kdo (kbl (kbr (kbr (kbr (kbr (kbr (kbr (kbr kdX0_faultPlace_39))))))))
theorem dX0_faultPlace_53 : decode cX0_faultPlace 53 = .ok (.ireturn, 1) := kdo (kbl (kbr (kbr (kbr (kbr (kbr (kbr (kbr (kbr kdX0_faultPlace_39)))))))))
theorem dX0_faultPlace_54 : decode cX0_faultPlace 54 = .ok (.aload_n 0, 1) := kdo (kbl (kbr (kbr (kbr (kbr (kbr (kbr (kbr (kbr (kbr kdX0_faultPlace_39))))))))))
theorem dX0_faultPlace_55 : decode cX0_faultPlace 55 = .ok (.iload_n 2, 1) := kdo (kbl (kbr (kbr (kbr (kbr (kbr (kbr (kbr (kbr (kbr (kbr kdX0_faultPlace_39)))))))))))
theorem dX0_faultPlace_56 : decode cX0_faultPlace 56 = .ok (.invokevirtual 27, 3) := kdo (kbl (kbr (kbr (kbr (kbr (kbr (kbr (kbr (kbr (kbr (kbr (kbr kdX0_faultPlace_39))))))))))))
theorem dX0_faultPlace_59 : decode cX0_faultPlace 59 = .ok (.bipush 59, 2) := kdo (kbl (kbr (kbr (kbr (kbr (kbr (kbr (kbr (kbr (kbr (kbr (kbr (kbr kdX0_faultPlace_39)))))))))))))
theorem dX0_faultPlace_61 : decode cX0_faultPlace 61 = .ok (.if_icmp .ne 5, 3) := kdo (kbl (kbr (kbr (kbr (kbr (kbr (kbr (kbr (kbr (kbr (kbr (kbr (kbr (kbr kdX0_faultPlace_39))))))))))))))
theorem dX0_faultPlace_64 : decode cX0_faultPlace 64 = .ok (.iload_n 2, 1) := kdo (kbl (kbr (kbr (kbr (kbr (kbr (kbr (kbr (kbr (kbr (kbr (kbr (kbr (kbr (kbr kdX0_faultPlace_39)))))))))))))))
theorem dX0_faultPlace_65 : decode cX0_faultPlace 65 = .ok (.istore_n 1, 1) := kdo (kbl (kbr (kbr (kbr (kbr (kbr (kbr (kbr (kbr (kbr (kbr (kbr (kbr (kbr (kbr (kbr kdX0_faultPlace_39))))))))))))))))
theorem dX0_faultPlace_66 : decode cX0_faultPlace 66 = .ok (.iinc 2 1, 3) := kdo (kbl (kbr (kbr (kbr (kbr (kbr (kbr (kbr (kbr (kbr (kbr (kbr (kbr (kbr (kbr (kbr (kbr kdX0_faultPlace_39)))))))))))))))))
theorem dX0_faultPlace_69 : decode cX0_faultPlace 69 = .ok (.goto (-65), 3) := kdo (kbl (kbr (kbr (kbr (kbr (kbr (kbr (kbr (kbr (kbr (kbr (kbr (kbr (kbr (kbr (kbr (kbr (kbr kdX0_faultPlace_39))))))))))))))))))
theorem dX0_faultPlace_72 : decode cX0_faultPlace 72 = .ok (.aload_n 0, 1) := kdo (kbl (kbr (kbr (kbr (kbr (kbr (kbr (kbr (kbr (kbr (kbr (kbr (kbr (kbr (kbr (kbr (kbr (kbr (kbr kdX0_faultPlace_39)))))))))))))))))))
theorem dX0_faultPlace_73 : decode cX0_faultPlace 73 = .ok (.getfield 15, 3) := kdo (kbl (kbr (kbr (kbr (kbr (kbr (kbr (kbr (kbr (kbr (kbr (kbr (kbr (kbr (kbr (kbr (kbr (kbr (kbr (kbr kdX0_faultPlace_39))))))))))))))))))))
theorem dX0_faultPlace_76 : decode cX0_faultPlace 76 = .ok (.ireturn, 1) := kdo (kbr (kbr (kbr (kbr (kbr (kbr (kbr (kbr (kbr (kbr (kbr (kbr (kbr (kbr (kbr (kbr (kbr (kbr (kbr (kbr kdX0_faultPlace_39))))))))))))))))))))
set_option maxRecDepth 20000 in
theorem kdX0_isWhole_0 : (decide (decode cX0_isWhole 0 = .ok (.aload_n 0, 1)) && (decide (decode cX0_isWhole 1 = .ok (.getfield 15, 3)) && (decide (decode cX0_isWhole 4 = .ok (.iconst 2, 1)) && (decide (decode cX0_isWhole 5 = .ok (.if_icmp .lt 33, 3)) && (decide (decode cX0_isWhole 8 = .ok (.aload_n 0, 1)) && (decide (decode cX0_isWhole 9 = .ok (.invokevirtual 31, 3)) && (decide (decode cX0_isWhole 12 = .ok (.aload_n 0, 1)) && (decide (decode cX0_isWhole 13 = .ok (.getfield 15, 3)) && (decide (decode cX0_isWhole 16 = .ok (.if_icmp .ne 22, 3)) && (decide (decode cX0_isWhole 19 = .ok (.aload_n 0, 1)) && (decide (decode cX0_isWhole 20 = .ok (.aload_n 0, 1)) && (decide (decode cX0_isWhole 21 = .ok (.getfield 15, 3)) && (decide (decode cX0_isWhole 24 = .ok (.iconst 2, 1)) && (decide (decode cX0_isWhole 25 = .ok (.isub, 1)) && (decide (decode cX0_isWhole 26 = .ok (.invokevirtual 27, 3)) && (decide (decode cX0_isWhole 29 = .ok (.bipush 59, 2)) && (decide (decode cX0_isWhole 31 = .ok (.if_icmp .ne 7, 3)) && (decide (decode cX0_isWhole 34 = .ok (.iconst 1, 1)) && (decide (decode cX0_isWhole 35 = .ok (.goto 4, 3)) && (decide (decode cX0_isWhole 38 = .ok (.iconst 0, 1)) && decide (decode cX0_isWhole 39 = .ok (.ireturn, 1)))))))))))))))))))))) = true := by decide +kernel
theorem dX0_isWhole_0 : decode cX0_isWhole 0 = .ok (.aload_n 0, 1) := kdo (kbl kdX0_isWhole_0)
theorem dX0_isWhole_1 : decode cX0_isWhole 1 = .ok (.getfield 15, 3) := kdo (kbl (kbr kdX0_isWhole_0))
theorem dX0_isWhole_4 : decode cX0_isWhole 4 = .ok (.iconst 2, 1) := kdo (kbl (kbr (kbr kdX0_isWhole_0)))
theorem dX0_isWhole_5 : decode cX0_isWhole 5 = .ok (.if_icmp .lt 33, 3) := kdo (kbl (kbr (kbr (kbr kdX0_isWhole_0))))
theorem dX0_isWhole_8 : decode cX0_isWhole 8 = .ok (.aload_n 0, 1) := kdo (kbl (kbr (kbr (kbr (kbr kdX0_isWhole_0)))))
theorem dX0_isWhole_9 : decode cX0_isWhole 9 = .ok (.invokevirtual 31, 3) := kdo (kbl (kbr (kbr (kbr (kbr (kbr kdX0_isWhole_0))))))
theorem dX0_isWhole_12 : decode cX0_isWhole 12 = .ok (.aload_n 0, 1) := kdo (kbl (kbr (kbr (kbr (kbr (kbr (kbr kdX0_isWhole_0)))))))
theorem dX0_isWhole_13 : decode cX0_isWhole 13 = .ok (.getfield 15, 3) := kdo (kbl (kbr (kbr (kbr (kbr (kbr (kbr (kbr kdX0_isWhole_0))))))))
theorem dX0_isWhole_16 : decode cX0_isWhole 16 = .ok (.if_icmp .ne 22, 3) := kdo (kbl (kbr (kbr (kbr (kbr (kbr (kbr (kbr (kbr kdX0_isWhole_0)))))))))
theorem dX0_isWhole_19 : decode cX0_isWhole 19 = .ok (.aload_n 0, 1) := kdo (kbl (kbr (kbr (kbr (kbr (kbr (kbr (kbr (kbr (kbr kdX0_isWhole_0))))))))))
theorem dX0_isWhole_20 : decode cX0_isWhole 20 = .ok (.aload_n 0, 1) := kdo (kbl (kbr (kbr (kbr (kbr (kbr (kbr (kbr (kbr (kbr (kbr kdX0_isWhole_0)))))))))))
theorem dX0_isWhole_21 : decode cX0_isWhole 21 = .ok (.getfield 15, 3) := kdo (kbl (kbr (kbr (kbr (kbr (kbr (kbr (kbr (kbr (kbr (kbr (kbr kdX0_isWhole_0))))))))))))
theorem dX0_isWhole_24 : decode cX0_isWhole 24 = .ok (.iconst 2, 1) := kdo (kbl (kbr (kbr (kbr (kbr (kbr (kbr (kbr (kbr (kbr (kbr (kbr (kbr kdX0_isWhole_0)))))))))))))
theorem dX0_isWhole_25 : decode cX0_isWhole 25 = .ok (.isub, 1) := kdo (kbl (kbr (kbr (kbr (kbr (kbr (kbr (kbr (kbr (kbr (kbr (kbr (kbr (kbr kdX0_isWhole_0))))))))))))))
theorem dX0_isWhole_26 : decode cX0_isWhole 26 = .ok (.invokevirtual 27, 3) := kdo (kbl (kbr (kbr (kbr (kbr (kbr (kbr (kbr (kbr (kbr (kbr (kbr (kbr (kbr (kbr kdX0_isWhole_0)))))))))))))))
theorem dX0_isWhole_29 : decode cX0_isWhole 29 = .ok (.bipush 59, 2) := kdo (kbl (kbr (kbr (kbr (kbr (kbr (kbr (kbr (kbr (kbr (kbr (kbr (kbr (kbr (kbr (kbr kdX0_isWhole_0))))))))))))))))
theorem dX0_isWhole_31 : decode cX0_isWhole 31 = .ok (.if_icmp .ne 7, 3) := kdo (kbl (kbr (kbr (kbr (kbr (kbr (kbr (kbr (kbr (kbr (kbr (kbr (kbr (kbr (kbr (kbr (kbr kdX0_isWhole_0)))))))))))))))))
theorem dX0_isWhole_34 : decode cX0_isWhole 34 = .ok (.iconst 1, 1) := kdo (kbl (kbr (kbr (kbr (kbr (kbr (kbr (kbr (kbr (kbr (kbr (kbr (kbr (kbr (kbr (kbr (kbr (kbr kdX0_isWhole_0))))))))))))))))))
theorem dX0_isWhole_35 : decode cX0_isWhole 35 = .ok (.goto 4, 3) := kdo (kbl (kbr (kbr (kbr (kbr (kbr (kbr (kbr (kbr (kbr (kbr (kbr (kbr (kbr (kbr (kbr (kbr (kbr (kbr kdX0_isWhole_0)))))))))))))))))))
theorem dX0_isWhole_38 : decode cX0_isWhole 38 = .ok (.iconst 0, 1) := kdo (kbl (kbr (kbr (kbr (kbr (kbr (kbr (kbr (kbr (kbr (kbr (kbr (kbr (kbr (kbr (kbr (kbr (kbr (kbr (kbr kdX0_isWhole_0))))))))))))))))))))
theorem dX0_isWhole_39 : decode cX0_isWhole 39 = .ok (.ireturn, 1) := kdo (kbr (kbr (kbr (kbr (kbr (kbr (kbr (kbr (kbr (kbr (kbr (kbr (kbr (kbr (kbr (kbr (kbr (kbr (kbr (kbr kdX0_isWhole_0))))))))))))))))))))
set_option maxRecDepth 20000 in
theorem kdX0_siteCount_0 : (decide (decode cX0_siteCount 0 = .ok (.aload_n 0, 1)) && (decide (decode cX0_siteCount 1 = .ok (.getfield 15, 3)) && (decide (decode cX0_siteCount 4 = .ok (.iconst 1, 1)) && (decide (decode cX0_siteCount 5 = .ok (.isub, 1)) && (decide (decode cX0_siteCount 6 = .ok (.iconst 3, 1)) && (decide (decode cX0_siteCount 7 = .ok (.idiv, 1)) && decide (decode cX0_siteCount 8 = .ok (.ireturn, 1)))))))) = true := by decide +kernel
theorem dX0_siteCount_0 : decode cX0_siteCount 0 = .ok (.aload_n 0, 1) := kdo (kbl kdX0_siteCount_0)
theorem dX0_siteCount_1 : decode cX0_siteCount 1 = .ok (.getfield 15, 3) := kdo (kbl (kbr kdX0_siteCount_0))
theorem dX0_siteCount_4 : decode cX0_siteCount 4 = .ok (.iconst 1, 1) := kdo (kbl (kbr (kbr kdX0_siteCount_0)))
theorem dX0_siteCount_5 : decode cX0_siteCount 5 = .ok (.isub, 1) := kdo (kbl (kbr (kbr (kbr kdX0_siteCount_0))))
theorem dX0_siteCount_6 : decode cX0_siteCount 6 = .ok (.iconst 3, 1) := kdo (kbl (kbr (kbr (kbr (kbr kdX0_siteCount_0)))))
theorem dX0_siteCount_7 : decode cX0_siteCount 7 = .ok (.idiv, 1) := kdo (kbl (kbr (kbr (kbr (kbr (kbr kdX0_siteCount_0))))))
theorem dX0_siteCount_8 : decode cX0_siteCount 8 = .ok (.ireturn, 1) := kdo (kbr (kbr (kbr (kbr (kbr (kbr kdX0_siteCount_0))))))
set_option maxRecDepth 20000 in
theorem kdX0_kindOf_0 : (decide (decode cX0_kindOf 0 = .ok (.aload_n 0, 1)) && (decide (decode cX0_kindOf 1 = .ok (.iload_n 1, 1)) && (decide (decode cX0_kindOf 2 = .ok (.iconst 3, 1)) && (decide (decode cX0_kindOf 3 = .ok (.imul, 1)) && (decide (decode cX0_kindOf 4 = .ok (.invokevirtual 35, 3)) && decide (decode cX0_kindOf 7 = .ok (.ireturn, 1))))))) = true := by decide +kernel
theorem dX0_kindOf_0 : decode cX0_kindOf 0 = .ok (.aload_n 0, 1) := kdo (kbl kdX0_kindOf_0)
theorem dX0_kindOf_1 : decode cX0_kindOf 1 = .ok (.iload_n 1, 1) := kdo (kbl (kbr kdX0_kindOf_0))
theorem dX0_kindOf_2 : decode cX0_kindOf 2 = .ok (.iconst 3, 1) := kdo (kbl (kbr (kbr kdX0_kindOf_0)))
theorem dX0_kindOf_3 : decode cX0_kindOf 3 = .ok (.imul, 1) := kdo (kbl (kbr (kbr (kbr kdX0_kindOf_0))))
theorem dX0_kindOf_4 : decode cX0_kindOf 4 = .ok (.invokevirtual 35, 3) := kdo (kbl (kbr (kbr (kbr (kbr kdX0_kindOf_0)))))
theorem dX0_kindOf_7 : decode cX0_kindOf 7 = .ok (.ireturn, 1) := kdo (kbr (kbr (kbr (kbr (kbr kdX0_kindOf_0)))))
set_option maxRecDepth 20000 in
theorem kdX0_wantOf_0 : (decide (decode cX0_wantOf 0 = .ok (.aload_n 0, 1)) && (decide (decode cX0_wantOf 1 = .ok (.iload_n 1, 1)) && (decide (decode cX0_wantOf 2 = .ok (.iconst 3, 1)) && (decide (decode cX0_wantOf 3 = .ok (.imul, 1)) && (decide (decode cX0_wantOf 4 = .ok (.iconst 1, 1)) && (decide (decode cX0_wantOf 5 = .ok (.iadd, 1)) && (decide (decode cX0_wantOf 6 = .ok (.invokevirtual 38, 3)) && decide (decode cX0_wantOf 9 = .ok (.ireturn, 1))))))))) = true := by decide +kernel
theorem dX0_wantOf_0 : decode cX0_wantOf 0 = .ok (.aload_n 0, 1) := kdo (kbl kdX0_wantOf_0)
theorem dX0_wantOf_1 : decode cX0_wantOf 1 = .ok (.iload_n 1, 1) := kdo (kbl (kbr kdX0_wantOf_0))
theorem dX0_wantOf_2 : decode cX0_wantOf 2 = .ok (.iconst 3, 1) := kdo (kbl (kbr (kbr kdX0_wantOf_0)))
theorem dX0_wantOf_3 : decode cX0_wantOf 3 = .ok (.imul, 1) := kdo (kbl (kbr (kbr (kbr kdX0_wantOf_0))))
theorem dX0_wantOf_4 : decode cX0_wantOf 4 = .ok (.iconst 1, 1) := kdo (kbl (kbr (kbr (kbr (kbr kdX0_wantOf_0)))))
theorem dX0_wantOf_5 : decode cX0_wantOf 5 = .ok (.iadd, 1) := kdo (kbl (kbr (kbr (kbr (kbr (kbr kdX0_wantOf_0))))))
theorem dX0_wantOf_6 : decode cX0_wantOf 6 = .ok (.invokevirtual 38, 3) := kdo (kbl (kbr (kbr (kbr (kbr (kbr (kbr kdX0_wantOf_0)))))))
theorem dX0_wantOf_9 : decode cX0_wantOf 9 = .ok (.ireturn, 1) := kdo (kbr (kbr (kbr (kbr (kbr (kbr (kbr kdX0_wantOf_0)))))))
set_option maxRecDepth 20000 in
theorem kdX0_sunTold_0 : (decide (decode cX0_sunTold 0 = .ok (.aload_n 0, 1)) && (decide (decode cX0_sunTold 1 = .ok (.aload_n 0, 1)) && (decide (decode cX0_sunTold 2 = .ok (.getfield 15, 3)) && (decide (decode cX0_sunTold 5 = .ok (.iconst 1, 1)) && (decide (decode cX0_sunTold 6 = .ok (.isub, 1)) && (decide (decode cX0_sunTold 7 = .ok (.invokevirtual 38, 3)) && decide (decode cX0_sunTold 10 = .ok (.ireturn, 1)))))))) = true := by decide +kernel
theorem dX0_sunTold_0 : decode cX0_sunTold 0 = .ok (.aload_n 0, 1) := kdo (kbl kdX0_sunTold_0)
theorem dX0_sunTold_1 : decode cX0_sunTold 1 = .ok (.aload_n 0, 1) := kdo (kbl (kbr kdX0_sunTold_0))
theorem dX0_sunTold_2 : decode cX0_sunTold 2 = .ok (.getfield 15, 3) := kdo (kbl (kbr (kbr kdX0_sunTold_0)))
theorem dX0_sunTold_5 : decode cX0_sunTold 5 = .ok (.iconst 1, 1) := kdo (kbl (kbr (kbr (kbr kdX0_sunTold_0))))
theorem dX0_sunTold_6 : decode cX0_sunTold 6 = .ok (.isub, 1) := kdo (kbl (kbr (kbr (kbr (kbr kdX0_sunTold_0)))))
theorem dX0_sunTold_7 : decode cX0_sunTold 7 = .ok (.invokevirtual 38, 3) := kdo (kbl (kbr (kbr (kbr (kbr (kbr kdX0_sunTold_0))))))
theorem dX0_sunTold_10 : decode cX0_sunTold 10 = .ok (.ireturn, 1) := kdo (kbr (kbr (kbr (kbr (kbr (kbr kdX0_sunTold_0))))))
set_option maxRecDepth 20000 in
theorem kdX0_fitsAmongSites_0 : (decide (decode cX0_fitsAmongSites 0 = .ok (.iload_n 1, 1)) && (decide (decode cX0_fitsAmongSites 1 = .ok (.iconst 3, 1)) && (decide (decode cX0_fitsAmongSites 2 = .ok (.irem, 1)) && (decide (decode cX0_fitsAmongSites 3 = .ok (.lookupswitch 47 #[(0, 25), (1, 39)], 25)) && (decide (decode cX0_fitsAmongSites 28 = .ok (.aload_n 0, 1)) && (decide (decode cX0_fitsAmongSites 29 = .ok (.iload_n 1, 1)) && (decide (decode cX0_fitsAmongSites 30 = .ok (.invokevirtual 35, 3)) && (decide (decode cX0_fitsAmongSites 33 = .ok (.ifCond .lt 7, 3)) && (decide (decode cX0_fitsAmongSites 36 = .ok (.iconst 1, 1)) && (decide (decode cX0_fitsAmongSites 37 = .ok (.goto 4, 3)) && (decide (decode cX0_fitsAmongSites 40 = .ok (.iconst 0, 1)) && (decide (decode cX0_fitsAmongSites 41 = .ok (.ireturn, 1)) && (decide (decode cX0_fitsAmongSites 42 = .ok (.aload_n 0, 1)) && (decide (decode cX0_fitsAmongSites 43 = .ok (.bipush 49, 2)) && (decide (decode cX0_fitsAmongSites 45 = .ok (.iload_n 1, 1)) && (decide (decode cX0_fitsAmongSites 46 = .ok (.invokevirtual 23, 3)) && (decide (decode cX0_fitsAmongSites 49 = .ok (.ireturn, 1)) && (decide (decode cX0_fitsAmongSites 50 = .ok (.aload_n 0, 1)) && (decide (decode cX0_fitsAmongSites 51 = .ok (.iload_n 1, 1)) && (decide (decode cX0_fitsAmongSites 52 = .ok (.iload_n 1, 1)) && (decide (decode cX0_fitsAmongSites 53 = .ok (.iconst 3, 1)) && (decide (decode cX0_fitsAmongSites 54 = .ok (.idiv, 1)) && (decide (decode cX0_fitsAmongSites 55 = .ok (.iconst 1, 1)) && decide (decode cX0_fitsAmongSites 56 = .ok (.iadd, 1))))))))))))))))))))))))) = true := by decide +kernel
theorem dX0_fitsAmongSites_0 : decode cX0_fitsAmongSites 0 = .ok (.iload_n 1, 1) := kdo (kbl kdX0_fitsAmongSites_0)
theorem dX0_fitsAmongSites_1 : decode cX0_fitsAmongSites 1 = .ok (.iconst 3, 1) := kdo (kbl (kbr kdX0_fitsAmongSites_0))
theorem dX0_fitsAmongSites_2 : decode cX0_fitsAmongSites 2 = .ok (.irem, 1) := kdo (kbl (kbr (kbr kdX0_fitsAmongSites_0)))
theorem dX0_fitsAmongSites_3 : decode cX0_fitsAmongSites 3 = .ok (.lookupswitch 47 #[(0, 25), (1, 39)], 25) := kdo (kbl (kbr (kbr (kbr kdX0_fitsAmongSites_0))))
theorem dX0_fitsAmongSites_28 : decode cX0_fitsAmongSites 28 = .ok (.aload_n 0, 1) := kdo (kbl (kbr (kbr (kbr (kbr kdX0_fitsAmongSites_0)))))
theorem dX0_fitsAmongSites_29 : decode cX0_fitsAmongSites 29 = .ok (.iload_n 1, 1) := kdo (kbl (kbr (kbr (kbr (kbr (kbr kdX0_fitsAmongSites_0))))))
theorem dX0_fitsAmongSites_30 : decode cX0_fitsAmongSites 30 = .ok (.invokevirtual 35, 3) := kdo (kbl (kbr (kbr (kbr (kbr (kbr (kbr kdX0_fitsAmongSites_0)))))))
theorem dX0_fitsAmongSites_33 : decode cX0_fitsAmongSites 33 = .ok (.ifCond .lt 7, 3) := kdo (kbl (kbr (kbr (kbr (kbr (kbr (kbr (kbr kdX0_fitsAmongSites_0))))))))
theorem dX0_fitsAmongSites_36 : decode cX0_fitsAmongSites 36 = .ok (.iconst 1, 1) := kdo (kbl (kbr (kbr (kbr (kbr (kbr (kbr (kbr (kbr kdX0_fitsAmongSites_0)))))))))
theorem dX0_fitsAmongSites_37 : decode cX0_fitsAmongSites 37 = .ok (.goto 4, 3) := kdo (kbl (kbr (kbr (kbr (kbr (kbr (kbr (kbr (kbr (kbr kdX0_fitsAmongSites_0))))))))))
theorem dX0_fitsAmongSites_40 : decode cX0_fitsAmongSites 40 = .ok (.iconst 0, 1) := kdo (kbl (kbr (kbr (kbr (kbr (kbr (kbr (kbr (kbr (kbr (kbr kdX0_fitsAmongSites_0)))))))))))
theorem dX0_fitsAmongSites_41 : decode cX0_fitsAmongSites 41 = .ok (.ireturn, 1) := kdo (kbl (kbr (kbr (kbr (kbr (kbr (kbr (kbr (kbr (kbr (kbr (kbr kdX0_fitsAmongSites_0))))))))))))
theorem dX0_fitsAmongSites_42 : decode cX0_fitsAmongSites 42 = .ok (.aload_n 0, 1) := kdo (kbl (kbr (kbr (kbr (kbr (kbr (kbr (kbr (kbr (kbr (kbr (kbr (kbr kdX0_fitsAmongSites_0)))))))))))))
theorem dX0_fitsAmongSites_43 : decode cX0_fitsAmongSites 43 = .ok (.bipush 49, 2) := kdo (kbl (kbr (kbr (kbr (kbr (kbr (kbr (kbr (kbr (kbr (kbr (kbr (kbr (kbr kdX0_fitsAmongSites_0))))))))))))))
theorem dX0_fitsAmongSites_45 : decode cX0_fitsAmongSites 45 = .ok (.iload_n 1, 1) := kdo (kbl (kbr (kbr (kbr (kbr (kbr (kbr (kbr (kbr (kbr (kbr (kbr (kbr (kbr (kbr kdX0_fitsAmongSites_0)))))))))))))))
theorem dX0_fitsAmongSites_46 : decode cX0_fitsAmongSites 46 = .ok (.invokevirtual 23, 3) := kdo (kbl (kbr (kbr (kbr (kbr (kbr (kbr (kbr (kbr (kbr (kbr (kbr (kbr (kbr (kbr (kbr kdX0_fitsAmongSites_0))))))))))))))))
theorem dX0_fitsAmongSites_49 : decode cX0_fitsAmongSites 49 = .ok (.ireturn, 1) := kdo (kbl (kbr (kbr (kbr (kbr (kbr (kbr (kbr (kbr (kbr (kbr (kbr (kbr (kbr (kbr (kbr (kbr kdX0_fitsAmongSites_0)))))))))))))))))
theorem dX0_fitsAmongSites_50 : decode cX0_fitsAmongSites 50 = .ok (.aload_n 0, 1) := kdo (kbl (kbr (kbr (kbr (kbr (kbr (kbr (kbr (kbr (kbr (kbr (kbr (kbr (kbr (kbr (kbr (kbr (kbr kdX0_fitsAmongSites_0))))))))))))))))))
theorem dX0_fitsAmongSites_51 : decode cX0_fitsAmongSites 51 = .ok (.iload_n 1, 1) := kdo (kbl (kbr (kbr (kbr (kbr (kbr (kbr (kbr (kbr (kbr (kbr (kbr (kbr (kbr (kbr (kbr (kbr (kbr (kbr kdX0_fitsAmongSites_0)))))))))))))))))))
theorem dX0_fitsAmongSites_52 : decode cX0_fitsAmongSites 52 = .ok (.iload_n 1, 1) := kdo (kbl (kbr (kbr (kbr (kbr (kbr (kbr (kbr (kbr (kbr (kbr (kbr (kbr (kbr (kbr (kbr (kbr (kbr (kbr (kbr kdX0_fitsAmongSites_0))))))))))))))))))))
theorem dX0_fitsAmongSites_53 : decode cX0_fitsAmongSites 53 = .ok (.iconst 3, 1) := kdo (kbl (kbr (kbr (kbr (kbr (kbr (kbr (kbr (kbr (kbr (kbr (kbr (kbr (kbr (kbr (kbr (kbr (kbr (kbr (kbr (kbr kdX0_fitsAmongSites_0)))))))))))))))))))))
theorem dX0_fitsAmongSites_54 : decode cX0_fitsAmongSites 54 = .ok (.idiv, 1) := kdo (kbl (kbr (kbr (kbr (kbr (kbr (kbr (kbr (kbr (kbr (kbr (kbr (kbr (kbr (kbr (kbr (kbr (kbr (kbr (kbr (kbr (kbr kdX0_fitsAmongSites_0))))))))))))))))))))))
theorem dX0_fitsAmongSites_55 : decode cX0_fitsAmongSites 55 = .ok (.iconst 1, 1) := kdo (kbl (kbr (kbr (kbr (kbr (kbr (kbr (kbr (kbr (kbr (kbr (kbr (kbr (kbr (kbr (kbr (kbr (kbr (kbr (kbr (kbr (kbr (kbr kdX0_fitsAmongSites_0)))))))))))))))))))))))
theorem dX0_fitsAmongSites_56 : decode cX0_fitsAmongSites 56 = .ok (.iadd, 1) := kdo (kbr (kbr (kbr (kbr (kbr (kbr (kbr (kbr (kbr (kbr (kbr (kbr (kbr (kbr (kbr (kbr (kbr (kbr (kbr (kbr (kbr (kbr (kbr kdX0_fitsAmongSites_0)))))))))))))))))))))))
set_option maxRecDepth 20000 in
theorem kdX0_fitsAmongSites_57 : (decide (decode cX0_fitsAmongSites 57 = .ok (.invokevirtual 41, 3)) && decide (decode cX0_fitsAmongSites 60 = .ok (.ireturn, 1))) = true := by decide +kernel
theorem dX0_fitsAmongSites_57 : decode cX0_fitsAmongSites 57 = .ok (.invokevirtual 41, 3) := kdo (kbl kdX0_fitsAmongSites_57)
theorem dX0_fitsAmongSites_60 : decode cX0_fitsAmongSites 60 = .ok (.ireturn, 1) := kdo (kbr kdX0_fitsAmongSites_57)
set_option maxRecDepth 20000 in
theorem kdX0_fitsBehindSites_0 : (decide (decode cX0_fitsBehindSites 0 = .ok (.aload_n 0, 1)) && (decide (decode cX0_fitsBehindSites 1 = .ok (.iload_n 1, 1)) && (decide (decode cX0_fitsBehindSites 2 = .ok (.invokevirtual 27, 3)) && (decide (decode cX0_fitsBehindSites 5 = .ok (.istore_n 3, 1)) && (decide (decode cX0_fitsBehindSites 6 = .ok (.iload_n 3, 1)) && (decide (decode cX0_fitsBehindSites 7 = .ok (.bipush 44, 2)) && (decide (decode cX0_fitsBehindSites 9 = .ok (.if_icmp .ne 9, 3)) && (decide (decode cX0_fitsBehindSites 12 = .ok (.iload_n 2, 1)) && (decide (decode cX0_fitsBehindSites 13 = .ok (.bipush 6, 2)) && (decide (decode cX0_fitsBehindSites 15 = .ok (.if_icmp .lt 14, 3)) && (decide (decode cX0_fitsBehindSites 18 = .ok (.iload_n 3, 1)) && (decide (decode cX0_fitsBehindSites 19 = .ok (.bipush 59, 2)) && (decide (decode cX0_fitsBehindSites 21 = .ok (.if_icmp .ne 12, 3)) && (decide (decode cX0_fitsBehindSites 24 = .ok (.iload_n 2, 1)) && (decide (decode cX0_fitsBehindSites 25 = .ok (.iconst 2, 1)) && (decide (decode cX0_fitsBehindSites 26 = .ok (.if_icmp .lt 7, 3)) && (decide (decode cX0_fitsBehindSites 29 = .ok (.iconst 1, 1)) && (decide (decode cX0_fitsBehindSites 30 = .ok (.goto 4, 3)) && (decide (decode cX0_fitsBehindSites 33 = .ok (.iconst 0, 1)) && decide (decode cX0_fitsBehindSites 34 = .ok (.ireturn, 1))))))))))))))))))))) = true := by decide +kernel
theorem dX0_fitsBehindSites_0 : decode cX0_fitsBehindSites 0 = .ok (.aload_n 0, 1) := kdo (kbl kdX0_fitsBehindSites_0)
theorem dX0_fitsBehindSites_1 : decode cX0_fitsBehindSites 1 = .ok (.iload_n 1, 1) := kdo (kbl (kbr kdX0_fitsBehindSites_0))
theorem dX0_fitsBehindSites_2 : decode cX0_fitsBehindSites 2 = .ok (.invokevirtual 27, 3) := kdo (kbl (kbr (kbr kdX0_fitsBehindSites_0)))
theorem dX0_fitsBehindSites_5 : decode cX0_fitsBehindSites 5 = .ok (.istore_n 3, 1) := kdo (kbl (kbr (kbr (kbr kdX0_fitsBehindSites_0))))
theorem dX0_fitsBehindSites_6 : decode cX0_fitsBehindSites 6 = .ok (.iload_n 3, 1) := kdo (kbl (kbr (kbr (kbr (kbr kdX0_fitsBehindSites_0)))))
theorem dX0_fitsBehindSites_7 : decode cX0_fitsBehindSites 7 = .ok (.bipush 44, 2) := kdo (kbl (kbr (kbr (kbr (kbr (kbr kdX0_fitsBehindSites_0))))))
theorem dX0_fitsBehindSites_9 : decode cX0_fitsBehindSites 9 = .ok (.if_icmp .ne 9, 3) := kdo (kbl (kbr (kbr (kbr (kbr (kbr (kbr kdX0_fitsBehindSites_0)))))))
theorem dX0_fitsBehindSites_12 : decode cX0_fitsBehindSites 12 = .ok (.iload_n 2, 1) := kdo (kbl (kbr (kbr (kbr (kbr (kbr (kbr (kbr kdX0_fitsBehindSites_0))))))))
theorem dX0_fitsBehindSites_13 : decode cX0_fitsBehindSites 13 = .ok (.bipush 6, 2) := kdo (kbl (kbr (kbr (kbr (kbr (kbr (kbr (kbr (kbr kdX0_fitsBehindSites_0)))))))))
theorem dX0_fitsBehindSites_15 : decode cX0_fitsBehindSites 15 = .ok (.if_icmp .lt 14, 3) := kdo (kbl (kbr (kbr (kbr (kbr (kbr (kbr (kbr (kbr (kbr kdX0_fitsBehindSites_0))))))))))
theorem dX0_fitsBehindSites_18 : decode cX0_fitsBehindSites 18 = .ok (.iload_n 3, 1) := kdo (kbl (kbr (kbr (kbr (kbr (kbr (kbr (kbr (kbr (kbr (kbr kdX0_fitsBehindSites_0)))))))))))
theorem dX0_fitsBehindSites_19 : decode cX0_fitsBehindSites 19 = .ok (.bipush 59, 2) := kdo (kbl (kbr (kbr (kbr (kbr (kbr (kbr (kbr (kbr (kbr (kbr (kbr kdX0_fitsBehindSites_0))))))))))))
theorem dX0_fitsBehindSites_21 : decode cX0_fitsBehindSites 21 = .ok (.if_icmp .ne 12, 3) := kdo (kbl (kbr (kbr (kbr (kbr (kbr (kbr (kbr (kbr (kbr (kbr (kbr (kbr kdX0_fitsBehindSites_0)))))))))))))
theorem dX0_fitsBehindSites_24 : decode cX0_fitsBehindSites 24 = .ok (.iload_n 2, 1) := kdo (kbl (kbr (kbr (kbr (kbr (kbr (kbr (kbr (kbr (kbr (kbr (kbr (kbr (kbr kdX0_fitsBehindSites_0))))))))))))))
theorem dX0_fitsBehindSites_25 : decode cX0_fitsBehindSites 25 = .ok (.iconst 2, 1) := kdo (kbl (kbr (kbr (kbr (kbr (kbr (kbr (kbr (kbr (kbr (kbr (kbr (kbr (kbr (kbr kdX0_fitsBehindSites_0)))))))))))))))
theorem dX0_fitsBehindSites_26 : decode cX0_fitsBehindSites 26 = .ok (.if_icmp .lt 7, 3) := kdo (kbl (kbr (kbr (kbr (kbr (kbr (kbr (kbr (kbr (kbr (kbr (kbr (kbr (kbr (kbr (kbr kdX0_fitsBehindSites_0))))))))))))))))
theorem dX0_fitsBehindSites_29 : decode cX0_fitsBehindSites 29 = .ok (.iconst 1, 1) := kdo (kbl (kbr (kbr (kbr (kbr (kbr (kbr (kbr (kbr (kbr (kbr (kbr (kbr (kbr (kbr (kbr (kbr kdX0_fitsBehindSites_0)))))))))))))))))
theorem dX0_fitsBehindSites_30 : decode cX0_fitsBehindSites 30 = .ok (.goto 4, 3) := kdo (kbl (kbr (kbr (kbr (kbr (kbr (kbr (kbr (kbr (kbr (kbr (kbr (kbr (kbr (kbr (kbr (kbr (kbr kdX0_fitsBehindSites_0))))))))))))))))))
theorem dX0_fitsBehindSites_33 : decode cX0_fitsBehindSites 33 = .ok (.iconst 0, 1) := kdo (kbl (kbr (kbr (kbr (kbr (kbr (kbr (kbr (kbr (kbr (kbr (kbr (kbr (kbr (kbr (kbr (kbr (kbr (kbr kdX0_fitsBehindSites_0)))))))))))))))))))
theorem dX0_fitsBehindSites_34 : decode cX0_fitsBehindSites 34 = .ok (.ireturn, 1) := kdo (kbr (kbr (kbr (kbr (kbr (kbr (kbr (kbr (kbr (kbr (kbr (kbr (kbr (kbr (kbr (kbr (kbr (kbr (kbr kdX0_fitsBehindSites_0)))))))))))))))))))
set_option maxRecDepth 20000 in
theorem kdX0_isDigitFrom_0 : (decide (decode cX0_isDigitFrom 0 = .ok (.aload_n 0, 1)) && (decide (decode cX0_isDigitFrom 1 = .ok (.iload_n 2, 1)) && (decide (decode cX0_isDigitFrom 2 = .ok (.invokevirtual 27, 3)) && (decide (decode cX0_isDigitFrom 5 = .ok (.iload_n 1, 1)) && (decide (decode cX0_isDigitFrom 6 = .ok (.bipush 57, 2)) && (decide (decode cX0_isDigitFrom 8 = .ok (.invokestatic 45, 3)) && decide (decode cX0_isDigitFrom 11 = .ok (.ireturn, 1)))))))) = true := by decide +kernel
theorem dX0_isDigitFrom_0 : decode cX0_isDigitFrom 0 = .ok (.aload_n 0, 1) := kdo (kbl kdX0_isDigitFrom_0)
theorem dX0_isDigitFrom_1 : decode cX0_isDigitFrom 1 = .ok (.iload_n 2, 1) := kdo (kbl (kbr kdX0_isDigitFrom_0))
theorem dX0_isDigitFrom_2 : decode cX0_isDigitFrom 2 = .ok (.invokevirtual 27, 3) := kdo (kbl (kbr (kbr kdX0_isDigitFrom_0)))
theorem dX0_isDigitFrom_5 : decode cX0_isDigitFrom 5 = .ok (.iload_n 1, 1) := kdo (kbl (kbr (kbr (kbr kdX0_isDigitFrom_0))))
theorem dX0_isDigitFrom_6 : decode cX0_isDigitFrom 6 = .ok (.bipush 57, 2) := kdo (kbl (kbr (kbr (kbr (kbr kdX0_isDigitFrom_0)))))
theorem dX0_isDigitFrom_8 : decode cX0_isDigitFrom 8 = .ok (.invokestatic 45, 3) := kdo (kbl (kbr (kbr (kbr (kbr (kbr kdX0_isDigitFrom_0))))))
theorem dX0_isDigitFrom_11 : decode cX0_isDigitFrom 11 = .ok (.ireturn, 1) := kdo (kbr (kbr (kbr (kbr (kbr (kbr kdX0_isDigitFrom_0))))))
set_option maxRecDepth 20000 in
theorem kdX0_digitAt_0 : (decide (decode cX0_digitAt 0 = .ok (.aload_n 0, 1)) && (decide (decode cX0_digitAt 1 = .ok (.iload_n 1, 1)) && (decide (decode cX0_digitAt 2 = .ok (.invokevirtual 27, 3)) && (decide (decode cX0_digitAt 5 = .ok (.bipush 48, 2)) && (decide (decode cX0_digitAt 7 = .ok (.isub, 1)) && decide (decode cX0_digitAt 8 = .ok (.ireturn, 1))))))) = true := by decide +kernel
theorem dX0_digitAt_0 : decode cX0_digitAt 0 = .ok (.aload_n 0, 1) := kdo (kbl kdX0_digitAt_0)
theorem dX0_digitAt_1 : decode cX0_digitAt 1 = .ok (.iload_n 1, 1) := kdo (kbl (kbr kdX0_digitAt_0))
theorem dX0_digitAt_2 : decode cX0_digitAt 2 = .ok (.invokevirtual 27, 3) := kdo (kbl (kbr (kbr kdX0_digitAt_0)))
theorem dX0_digitAt_5 : decode cX0_digitAt 5 = .ok (.bipush 48, 2) := kdo (kbl (kbr (kbr (kbr kdX0_digitAt_0))))
theorem dX0_digitAt_7 : decode cX0_digitAt 7 = .ok (.isub, 1) := kdo (kbl (kbr (kbr (kbr (kbr kdX0_digitAt_0)))))
theorem dX0_digitAt_8 : decode cX0_digitAt 8 = .ok (.ireturn, 1) := kdo (kbr (kbr (kbr (kbr (kbr kdX0_digitAt_0)))))
set_option maxRecDepth 20000 in
theorem kdX0_kindAt_0 : (decide (decode cX0_kindAt 0 = .ok (.ldc 49, 2)) && (decide (decode cX0_kindAt 2 = .ok (.aload_n 0, 1)) && (decide (decode cX0_kindAt 3 = .ok (.iload_n 1, 1)) && (decide (decode cX0_kindAt 4 = .ok (.invokevirtual 27, 3)) && (decide (decode cX0_kindAt 7 = .ok (.i2c, 1)) && (decide (decode cX0_kindAt 8 = .ok (.invokevirtual 51, 3)) && decide (decode cX0_kindAt 11 = .ok (.ireturn, 1)))))))) = true := by decide +kernel
theorem dX0_kindAt_0 : decode cX0_kindAt 0 = .ok (.ldc 49, 2) := kdo (kbl kdX0_kindAt_0)
theorem dX0_kindAt_2 : decode cX0_kindAt 2 = .ok (.aload_n 0, 1) := kdo (kbl (kbr kdX0_kindAt_0))
theorem dX0_kindAt_3 : decode cX0_kindAt 3 = .ok (.iload_n 1, 1) := kdo (kbl (kbr (kbr kdX0_kindAt_0)))
theorem dX0_kindAt_4 : decode cX0_kindAt 4 = .ok (.invokevirtual 27, 3) := kdo (kbl (kbr (kbr (kbr kdX0_kindAt_0))))
theorem dX0_kindAt_7 : decode cX0_kindAt 7 = .ok (.i2c, 1) := kdo (kbl (kbr (kbr (kbr (kbr kdX0_kindAt_0)))))
theorem dX0_kindAt_8 : decode cX0_kindAt 8 = .ok (.invokevirtual 51, 3) := kdo (kbl (kbr (kbr (kbr (kbr (kbr kdX0_kindAt_0))))))
theorem dX0_kindAt_11 : decode cX0_kindAt 11 = .ok (.ireturn, 1) := kdo (kbr (kbr (kbr (kbr (kbr (kbr kdX0_kindAt_0))))))
set_option maxRecDepth 20000 in
theorem kdX0_codeAt_0 : (decide (decode cX0_codeAt 0 = .ok (.iload_n 1, 1)) && (decide (decode cX0_codeAt 1 = .ok (.ifCond .lt 21, 3)) && (decide (decode cX0_codeAt 4 = .ok (.iload_n 1, 1)) && (decide (decode cX0_codeAt 5 = .ok (.aload_n 0, 1)) && (decide (decode cX0_codeAt 6 = .ok (.getfield 9, 3)) && (decide (decode cX0_codeAt 9 = .ok (.arraylength, 1)) && (decide (decode cX0_codeAt 10 = .ok (.if_icmp .ge 12, 3)) && (decide (decode cX0_codeAt 13 = .ok (.aload_n 0, 1)) && (decide (decode cX0_codeAt 14 = .ok (.getfield 9, 3)) && (decide (decode cX0_codeAt 17 = .ok (.iload_n 1, 1)) && (decide (decode cX0_codeAt 18 = .ok (.iaload, 1)) && (decide (decode cX0_codeAt 19 = .ok (.goto 4, 3)) && (decide (decode cX0_codeAt 22 = .ok (.iconst 0, 1)) && decide (decode cX0_codeAt 23 = .ok (.ireturn, 1))))))))))))))) = true := by decide +kernel
theorem dX0_codeAt_0 : decode cX0_codeAt 0 = .ok (.iload_n 1, 1) := kdo (kbl kdX0_codeAt_0)
theorem dX0_codeAt_1 : decode cX0_codeAt 1 = .ok (.ifCond .lt 21, 3) := kdo (kbl (kbr kdX0_codeAt_0))
theorem dX0_codeAt_4 : decode cX0_codeAt 4 = .ok (.iload_n 1, 1) := kdo (kbl (kbr (kbr kdX0_codeAt_0)))
theorem dX0_codeAt_5 : decode cX0_codeAt 5 = .ok (.aload_n 0, 1) := kdo (kbl (kbr (kbr (kbr kdX0_codeAt_0))))
theorem dX0_codeAt_6 : decode cX0_codeAt 6 = .ok (.getfield 9, 3) := kdo (kbl (kbr (kbr (kbr (kbr kdX0_codeAt_0)))))
theorem dX0_codeAt_9 : decode cX0_codeAt 9 = .ok (.arraylength, 1) := kdo (kbl (kbr (kbr (kbr (kbr (kbr kdX0_codeAt_0))))))
theorem dX0_codeAt_10 : decode cX0_codeAt 10 = .ok (.if_icmp .ge 12, 3) := kdo (kbl (kbr (kbr (kbr (kbr (kbr (kbr kdX0_codeAt_0)))))))
theorem dX0_codeAt_13 : decode cX0_codeAt 13 = .ok (.aload_n 0, 1) := kdo (kbl (kbr (kbr (kbr (kbr (kbr (kbr (kbr kdX0_codeAt_0))))))))
theorem dX0_codeAt_14 : decode cX0_codeAt 14 = .ok (.getfield 9, 3) := kdo (kbl (kbr (kbr (kbr (kbr (kbr (kbr (kbr (kbr kdX0_codeAt_0)))))))))
theorem dX0_codeAt_17 : decode cX0_codeAt 17 = .ok (.iload_n 1, 1) := kdo (kbl (kbr (kbr (kbr (kbr (kbr (kbr (kbr (kbr (kbr kdX0_codeAt_0))))))))))
theorem dX0_codeAt_18 : decode cX0_codeAt 18 = .ok (.iaload, 1) := kdo (kbl (kbr (kbr (kbr (kbr (kbr (kbr (kbr (kbr (kbr (kbr kdX0_codeAt_0)))))))))))
theorem dX0_codeAt_19 : decode cX0_codeAt 19 = .ok (.goto 4, 3) := kdo (kbl (kbr (kbr (kbr (kbr (kbr (kbr (kbr (kbr (kbr (kbr (kbr kdX0_codeAt_0))))))))))))
theorem dX0_codeAt_22 : decode cX0_codeAt 22 = .ok (.iconst 0, 1) := kdo (kbl (kbr (kbr (kbr (kbr (kbr (kbr (kbr (kbr (kbr (kbr (kbr (kbr kdX0_codeAt_0)))))))))))))
theorem dX0_codeAt_23 : decode cX0_codeAt 23 = .ok (.ireturn, 1) := kdo (kbr (kbr (kbr (kbr (kbr (kbr (kbr (kbr (kbr (kbr (kbr (kbr (kbr kdX0_codeAt_0)))))))))))))
set_option maxRecDepth 20000 in
theorem kdX1_init_0 : (decide (decode cX1_init 0 = .ok (.aload_n 0, 1)) && (decide (decode cX1_init 1 = .ok (.invokespecial 3, 3)) && (decide (decode cX1_init 4 = .ok (.aload_n 0, 1)) && (decide (decode cX1_init 5 = .ok (.bipush 6, 2)) && (decide (decode cX1_init 7 = .ok (.newarray .int, 2)) && (decide (decode cX1_init 9 = .ok (.putfield 9, 3)) && (decide (decode cX1_init 12 = .ok (.aload_n 0, 1)) && (decide (decode cX1_init 13 = .ok (.bipush 6, 2)) && (decide (decode cX1_init 15 = .ok (.newarray .int, 2)) && (decide (decode cX1_init 17 = .ok (.putfield 15, 3)) && (decide (decode cX1_init 20 = .ok (.aload_n 0, 1)) && (decide (decode cX1_init 21 = .ok (.bipush 6, 2)) && (decide (decode cX1_init 23 = .ok (.newarray .int, 2)) && (decide (decode cX1_init 25 = .ok (.putfield 18, 3)) && (decide (decode cX1_init 28 = .ok (.aload_n 0, 1)) && (decide (decode cX1_init 29 = .ok (.bipush 6, 2)) && (decide (decode cX1_init 31 = .ok (.newarray .int, 2)) && (decide (decode cX1_init 33 = .ok (.putfield 21, 3)) && (decide (decode cX1_init 36 = .ok (.aload_n 0, 1)) && (decide (decode cX1_init 37 = .ok (.bipush 6, 2)) && (decide (decode cX1_init 39 = .ok (.newarray .int, 2)) && (decide (decode cX1_init 41 = .ok (.putfield 24, 3)) && (decide (decode cX1_init 44 = .ok (.aload_n 0, 1)) && decide (decode cX1_init 45 = .ok (.bipush 6, 2))))))))))))))))))))))))) = true := by decide +kernel
theorem dX1_init_0 : decode cX1_init 0 = .ok (.aload_n 0, 1) := kdo (kbl kdX1_init_0)
theorem dX1_init_1 : decode cX1_init 1 = .ok (.invokespecial 3, 3) := kdo (kbl (kbr kdX1_init_0))
theorem dX1_init_4 : decode cX1_init 4 = .ok (.aload_n 0, 1) := kdo (kbl (kbr (kbr kdX1_init_0)))
theorem dX1_init_5 : decode cX1_init 5 = .ok (.bipush 6, 2) := kdo (kbl (kbr (kbr (kbr kdX1_init_0))))
theorem dX1_init_7 : decode cX1_init 7 = .ok (.newarray .int, 2) := kdo (kbl (kbr (kbr (kbr (kbr kdX1_init_0)))))
theorem dX1_init_9 : decode cX1_init 9 = .ok (.putfield 9, 3) := kdo (kbl (kbr (kbr (kbr (kbr (kbr kdX1_init_0))))))
theorem dX1_init_12 : decode cX1_init 12 = .ok (.aload_n 0, 1) := kdo (kbl (kbr (kbr (kbr (kbr (kbr (kbr kdX1_init_0)))))))
theorem dX1_init_13 : decode cX1_init 13 = .ok (.bipush 6, 2) := kdo (kbl (kbr (kbr (kbr (kbr (kbr (kbr (kbr kdX1_init_0))))))))
theorem dX1_init_15 : decode cX1_init 15 = .ok (.newarray .int, 2) := kdo (kbl (kbr (kbr (kbr (kbr (kbr (kbr (kbr (kbr kdX1_init_0)))))))))
theorem dX1_init_17 : decode cX1_init 17 = .ok (.putfield 15, 3) := kdo (kbl (kbr (kbr (kbr (kbr (kbr (kbr (kbr (kbr (kbr kdX1_init_0))))))))))
theorem dX1_init_20 : decode cX1_init 20 = .ok (.aload_n 0, 1) := kdo (kbl (kbr (kbr (kbr (kbr (kbr (kbr (kbr (kbr (kbr (kbr kdX1_init_0)))))))))))
theorem dX1_init_21 : decode cX1_init 21 = .ok (.bipush 6, 2) := kdo (kbl (kbr (kbr (kbr (kbr (kbr (kbr (kbr (kbr (kbr (kbr (kbr kdX1_init_0))))))))))))
theorem dX1_init_23 : decode cX1_init 23 = .ok (.newarray .int, 2) := kdo (kbl (kbr (kbr (kbr (kbr (kbr (kbr (kbr (kbr (kbr (kbr (kbr (kbr kdX1_init_0)))))))))))))
theorem dX1_init_25 : decode cX1_init 25 = .ok (.putfield 18, 3) := kdo (kbl (kbr (kbr (kbr (kbr (kbr (kbr (kbr (kbr (kbr (kbr (kbr (kbr (kbr kdX1_init_0))))))))))))))
theorem dX1_init_28 : decode cX1_init 28 = .ok (.aload_n 0, 1) := kdo (kbl (kbr (kbr (kbr (kbr (kbr (kbr (kbr (kbr (kbr (kbr (kbr (kbr (kbr (kbr kdX1_init_0)))))))))))))))
theorem dX1_init_29 : decode cX1_init 29 = .ok (.bipush 6, 2) := kdo (kbl (kbr (kbr (kbr (kbr (kbr (kbr (kbr (kbr (kbr (kbr (kbr (kbr (kbr (kbr (kbr kdX1_init_0))))))))))))))))
theorem dX1_init_31 : decode cX1_init 31 = .ok (.newarray .int, 2) := kdo (kbl (kbr (kbr (kbr (kbr (kbr (kbr (kbr (kbr (kbr (kbr (kbr (kbr (kbr (kbr (kbr (kbr kdX1_init_0)))))))))))))))))
theorem dX1_init_33 : decode cX1_init 33 = .ok (.putfield 21, 3) := kdo (kbl (kbr (kbr (kbr (kbr (kbr (kbr (kbr (kbr (kbr (kbr (kbr (kbr (kbr (kbr (kbr (kbr (kbr kdX1_init_0))))))))))))))))))
theorem dX1_init_36 : decode cX1_init 36 = .ok (.aload_n 0, 1) := kdo (kbl (kbr (kbr (kbr (kbr (kbr (kbr (kbr (kbr (kbr (kbr (kbr (kbr (kbr (kbr (kbr (kbr (kbr (kbr kdX1_init_0)))))))))))))))))))
theorem dX1_init_37 : decode cX1_init 37 = .ok (.bipush 6, 2) := kdo (kbl (kbr (kbr (kbr (kbr (kbr (kbr (kbr (kbr (kbr (kbr (kbr (kbr (kbr (kbr (kbr (kbr (kbr (kbr (kbr kdX1_init_0))))))))))))))))))))
theorem dX1_init_39 : decode cX1_init 39 = .ok (.newarray .int, 2) := kdo (kbl (kbr (kbr (kbr (kbr (kbr (kbr (kbr (kbr (kbr (kbr (kbr (kbr (kbr (kbr (kbr (kbr (kbr (kbr (kbr (kbr kdX1_init_0)))))))))))))))))))))
theorem dX1_init_41 : decode cX1_init 41 = .ok (.putfield 24, 3) := kdo (kbl (kbr (kbr (kbr (kbr (kbr (kbr (kbr (kbr (kbr (kbr (kbr (kbr (kbr (kbr (kbr (kbr (kbr (kbr (kbr (kbr (kbr kdX1_init_0))))))))))))))))))))))
theorem dX1_init_44 : decode cX1_init 44 = .ok (.aload_n 0, 1) := kdo (kbl (kbr (kbr (kbr (kbr (kbr (kbr (kbr (kbr (kbr (kbr (kbr (kbr (kbr (kbr (kbr (kbr (kbr (kbr (kbr (kbr (kbr (kbr kdX1_init_0)))))))))))))))))))))))
theorem dX1_init_45 : decode cX1_init 45 = .ok (.bipush 6, 2) := kdo (kbr (kbr (kbr (kbr (kbr (kbr (kbr (kbr (kbr (kbr (kbr (kbr (kbr (kbr (kbr (kbr (kbr (kbr (kbr (kbr (kbr (kbr (kbr kdX1_init_0)))))))))))))))))))))))
set_option maxRecDepth 20000 in
theorem kdX1_init_47 : (decide (decode cX1_init 47 = .ok (.newarray .int, 2)) && (decide (decode cX1_init 49 = .ok (.putfield 27, 3)) && (decide (decode cX1_init 52 = .ok (.aload_n 0, 1)) && (decide (decode cX1_init 53 = .ok (.bipush 6, 2)) && (decide (decode cX1_init 55 = .ok (.newarray .int, 2)) && (decide (decode cX1_init 57 = .ok (.putfield 30, 3)) && (decide (decode cX1_init 60 = .ok (.aload_n 0, 1)) && (decide (decode cX1_init 61 = .ok (.bipush 6, 2)) && (decide (decode cX1_init 63 = .ok (.newarray .int, 2)) && (decide (decode cX1_init 65 = .ok (.putfield 33, 3)) && decide (decode cX1_init 68 = .ok (.return_, 1)))))))))))) = true := by decide +kernel
theorem dX1_init_47 : decode cX1_init 47 = .ok (.newarray .int, 2) := kdo (kbl kdX1_init_47)
theorem dX1_init_49 : decode cX1_init 49 = .ok (.putfield 27, 3) := kdo (kbl (kbr kdX1_init_47))
theorem dX1_init_52 : decode cX1_init 52 = .ok (.aload_n 0, 1) := kdo (kbl (kbr (kbr kdX1_init_47)))
theorem dX1_init_53 : decode cX1_init 53 = .ok (.bipush 6, 2) := kdo (kbl (kbr (kbr (kbr kdX1_init_47))))
theorem dX1_init_55 : decode cX1_init 55 = .ok (.newarray .int, 2) := kdo (kbl (kbr (kbr (kbr (kbr kdX1_init_47)))))
theorem dX1_init_57 : decode cX1_init 57 = .ok (.putfield 30, 3) := kdo (kbl (kbr (kbr (kbr (kbr (kbr kdX1_init_47))))))
theorem dX1_init_60 : decode cX1_init 60 = .ok (.aload_n 0, 1) := kdo (kbl (kbr (kbr (kbr (kbr (kbr (kbr kdX1_init_47)))))))
theorem dX1_init_61 : decode cX1_init 61 = .ok (.bipush 6, 2) := kdo (kbl (kbr (kbr (kbr (kbr (kbr (kbr (kbr kdX1_init_47))))))))
theorem dX1_init_63 : decode cX1_init 63 = .ok (.newarray .int, 2) := kdo (kbl (kbr (kbr (kbr (kbr (kbr (kbr (kbr (kbr kdX1_init_47)))))))))
theorem dX1_init_65 : decode cX1_init 65 = .ok (.putfield 33, 3) := kdo (kbl (kbr (kbr (kbr (kbr (kbr (kbr (kbr (kbr (kbr kdX1_init_47))))))))))
theorem dX1_init_68 : decode cX1_init 68 = .ok (.return_, 1) := kdo (kbr (kbr (kbr (kbr (kbr (kbr (kbr (kbr (kbr (kbr kdX1_init_47))))))))))
set_option maxRecDepth 20000 in
theorem kdX1_begin_0 : (decide (decode cX1_begin 0 = .ok (.aload_n 0, 1)) && (decide (decode cX1_begin 1 = .ok (.iconst 0, 1)) && (decide (decode cX1_begin 2 = .ok (.putfield 36, 3)) && (decide (decode cX1_begin 5 = .ok (.aload_n 0, 1)) && (decide (decode cX1_begin 6 = .ok (.iload_n 1, 1)) && (decide (decode cX1_begin 7 = .ok (.putfield 40, 3)) && (decide (decode cX1_begin 10 = .ok (.aload_n 0, 1)) && (decide (decode cX1_begin 11 = .ok (.iconst 0, 1)) && (decide (decode cX1_begin 12 = .ok (.putfield 43, 3)) && (decide (decode cX1_begin 15 = .ok (.aload_n 0, 1)) && (decide (decode cX1_begin 16 = .ok (.iconst 0, 1)) && (decide (decode cX1_begin 17 = .ok (.putfield 46, 3)) && (decide (decode cX1_begin 20 = .ok (.aload_n 0, 1)) && (decide (decode cX1_begin 21 = .ok (.iconst 0, 1)) && (decide (decode cX1_begin 22 = .ok (.putfield 49, 3)) && (decide (decode cX1_begin 25 = .ok (.iconst 0, 1)) && (decide (decode cX1_begin 26 = .ok (.istore_n 2, 1)) && (decide (decode cX1_begin 27 = .ok (.iload_n 2, 1)) && (decide (decode cX1_begin 28 = .ok (.bipush 6, 2)) && (decide (decode cX1_begin 30 = .ok (.if_icmp .ge 37, 3)) && (decide (decode cX1_begin 33 = .ok (.aload_n 0, 1)) && (decide (decode cX1_begin 34 = .ok (.getfield 9, 3)) && (decide (decode cX1_begin 37 = .ok (.iload_n 2, 1)) && decide (decode cX1_begin 38 = .ok (.iconst 0, 1))))))))))))))))))))))))) = true := by decide +kernel
theorem dX1_begin_0 : decode cX1_begin 0 = .ok (.aload_n 0, 1) := kdo (kbl kdX1_begin_0)
theorem dX1_begin_1 : decode cX1_begin 1 = .ok (.iconst 0, 1) := kdo (kbl (kbr kdX1_begin_0))
theorem dX1_begin_2 : decode cX1_begin 2 = .ok (.putfield 36, 3) := kdo (kbl (kbr (kbr kdX1_begin_0)))
theorem dX1_begin_5 : decode cX1_begin 5 = .ok (.aload_n 0, 1) := kdo (kbl (kbr (kbr (kbr kdX1_begin_0))))
theorem dX1_begin_6 : decode cX1_begin 6 = .ok (.iload_n 1, 1) := kdo (kbl (kbr (kbr (kbr (kbr kdX1_begin_0)))))
theorem dX1_begin_7 : decode cX1_begin 7 = .ok (.putfield 40, 3) := kdo (kbl (kbr (kbr (kbr (kbr (kbr kdX1_begin_0))))))
theorem dX1_begin_10 : decode cX1_begin 10 = .ok (.aload_n 0, 1) := kdo (kbl (kbr (kbr (kbr (kbr (kbr (kbr kdX1_begin_0)))))))
theorem dX1_begin_11 : decode cX1_begin 11 = .ok (.iconst 0, 1) := kdo (kbl (kbr (kbr (kbr (kbr (kbr (kbr (kbr kdX1_begin_0))))))))
theorem dX1_begin_12 : decode cX1_begin 12 = .ok (.putfield 43, 3) := kdo (kbl (kbr (kbr (kbr (kbr (kbr (kbr (kbr (kbr kdX1_begin_0)))))))))
theorem dX1_begin_15 : decode cX1_begin 15 = .ok (.aload_n 0, 1) := kdo (kbl (kbr (kbr (kbr (kbr (kbr (kbr (kbr (kbr (kbr kdX1_begin_0))))))))))
theorem dX1_begin_16 : decode cX1_begin 16 = .ok (.iconst 0, 1) := kdo (kbl (kbr (kbr (kbr (kbr (kbr (kbr (kbr (kbr (kbr (kbr kdX1_begin_0)))))))))))
theorem dX1_begin_17 : decode cX1_begin 17 = .ok (.putfield 46, 3) := kdo (kbl (kbr (kbr (kbr (kbr (kbr (kbr (kbr (kbr (kbr (kbr (kbr kdX1_begin_0))))))))))))
theorem dX1_begin_20 : decode cX1_begin 20 = .ok (.aload_n 0, 1) := kdo (kbl (kbr (kbr (kbr (kbr (kbr (kbr (kbr (kbr (kbr (kbr (kbr (kbr kdX1_begin_0)))))))))))))
theorem dX1_begin_21 : decode cX1_begin 21 = .ok (.iconst 0, 1) := kdo (kbl (kbr (kbr (kbr (kbr (kbr (kbr (kbr (kbr (kbr (kbr (kbr (kbr (kbr kdX1_begin_0))))))))))))))
theorem dX1_begin_22 : decode cX1_begin 22 = .ok (.putfield 49, 3) := kdo (kbl (kbr (kbr (kbr (kbr (kbr (kbr (kbr (kbr (kbr (kbr (kbr (kbr (kbr (kbr kdX1_begin_0)))))))))))))))
theorem dX1_begin_25 : decode cX1_begin 25 = .ok (.iconst 0, 1) := kdo (kbl (kbr (kbr (kbr (kbr (kbr (kbr (kbr (kbr (kbr (kbr (kbr (kbr (kbr (kbr (kbr kdX1_begin_0))))))))))))))))
theorem dX1_begin_26 : decode cX1_begin 26 = .ok (.istore_n 2, 1) := kdo (kbl (kbr (kbr (kbr (kbr (kbr (kbr (kbr (kbr (kbr (kbr (kbr (kbr (kbr (kbr (kbr (kbr kdX1_begin_0)))))))))))))))))
theorem dX1_begin_27 : decode cX1_begin 27 = .ok (.iload_n 2, 1) := kdo (kbl (kbr (kbr (kbr (kbr (kbr (kbr (kbr (kbr (kbr (kbr (kbr (kbr (kbr (kbr (kbr (kbr (kbr kdX1_begin_0))))))))))))))))))
theorem dX1_begin_28 : decode cX1_begin 28 = .ok (.bipush 6, 2) := kdo (kbl (kbr (kbr (kbr (kbr (kbr (kbr (kbr (kbr (kbr (kbr (kbr (kbr (kbr (kbr (kbr (kbr (kbr (kbr kdX1_begin_0)))))))))))))))))))
theorem dX1_begin_30 : decode cX1_begin 30 = .ok (.if_icmp .ge 37, 3) := kdo (kbl (kbr (kbr (kbr (kbr (kbr (kbr (kbr (kbr (kbr (kbr (kbr (kbr (kbr (kbr (kbr (kbr (kbr (kbr (kbr kdX1_begin_0))))))))))))))))))))
theorem dX1_begin_33 : decode cX1_begin 33 = .ok (.aload_n 0, 1) := kdo (kbl (kbr (kbr (kbr (kbr (kbr (kbr (kbr (kbr (kbr (kbr (kbr (kbr (kbr (kbr (kbr (kbr (kbr (kbr (kbr (kbr kdX1_begin_0)))))))))))))))))))))
theorem dX1_begin_34 : decode cX1_begin 34 = .ok (.getfield 9, 3) := kdo (kbl (kbr (kbr (kbr (kbr (kbr (kbr (kbr (kbr (kbr (kbr (kbr (kbr (kbr (kbr (kbr (kbr (kbr (kbr (kbr (kbr (kbr kdX1_begin_0))))))))))))))))))))))
theorem dX1_begin_37 : decode cX1_begin 37 = .ok (.iload_n 2, 1) := kdo (kbl (kbr (kbr (kbr (kbr (kbr (kbr (kbr (kbr (kbr (kbr (kbr (kbr (kbr (kbr (kbr (kbr (kbr (kbr (kbr (kbr (kbr (kbr kdX1_begin_0)))))))))))))))))))))))
theorem dX1_begin_38 : decode cX1_begin 38 = .ok (.iconst 0, 1) := kdo (kbr (kbr (kbr (kbr (kbr (kbr (kbr (kbr (kbr (kbr (kbr (kbr (kbr (kbr (kbr (kbr (kbr (kbr (kbr (kbr (kbr (kbr (kbr kdX1_begin_0)))))))))))))))))))))))
set_option maxRecDepth 20000 in
theorem kdX1_begin_39 : (decide (decode cX1_begin 39 = .ok (.iastore, 1)) && (decide (decode cX1_begin 40 = .ok (.aload_n 0, 1)) && (decide (decode cX1_begin 41 = .ok (.getfield 15, 3)) && (decide (decode cX1_begin 44 = .ok (.iload_n 2, 1)) && (decide (decode cX1_begin 45 = .ok (.iconst 0, 1)) && (decide (decode cX1_begin 46 = .ok (.iastore, 1)) && (decide (decode cX1_begin 47 = .ok (.aload_n 0, 1)) && (decide (decode cX1_begin 48 = .ok (.getfield 18, 3)) && (decide (decode cX1_begin 51 = .ok (.iload_n 2, 1)) && (decide (decode cX1_begin 52 = .ok (.iconst 0, 1)) && (decide (decode cX1_begin 53 = .ok (.iastore, 1)) && (decide (decode cX1_begin 54 = .ok (.aload_n 0, 1)) && (decide (decode cX1_begin 55 = .ok (.getfield 21, 3)) && (decide (decode cX1_begin 58 = .ok (.iload_n 2, 1)) && (decide (decode cX1_begin 59 = .ok (.iconst 0, 1)) && (decide (decode cX1_begin 60 = .ok (.iastore, 1)) && (decide (decode cX1_begin 61 = .ok (.iinc 2 1, 3)) && (decide (decode cX1_begin 64 = .ok (.goto (-37), 3)) && decide (decode cX1_begin 67 = .ok (.return_, 1)))))))))))))))))))) = true := by decide +kernel
theorem dX1_begin_39 : decode cX1_begin 39 = .ok (.iastore, 1) := kdo (kbl kdX1_begin_39)
theorem dX1_begin_40 : decode cX1_begin 40 = .ok (.aload_n 0, 1) := kdo (kbl (kbr kdX1_begin_39))
theorem dX1_begin_41 : decode cX1_begin 41 = .ok (.getfield 15, 3) := kdo (kbl (kbr (kbr kdX1_begin_39)))
theorem dX1_begin_44 : decode cX1_begin 44 = .ok (.iload_n 2, 1) := kdo (kbl (kbr (kbr (kbr kdX1_begin_39))))
theorem dX1_begin_45 : decode cX1_begin 45 = .ok (.iconst 0, 1) := kdo (kbl (kbr (kbr (kbr (kbr kdX1_begin_39)))))
theorem dX1_begin_46 : decode cX1_begin 46 = .ok (.iastore, 1) := kdo (kbl (kbr (kbr (kbr (kbr (kbr kdX1_begin_39))))))
theorem dX1_begin_47 : decode cX1_begin 47 = .ok (.aload_n 0, 1) := kdo (kbl (kbr (kbr (kbr (kbr (kbr (kbr kdX1_begin_39)))))))
theorem dX1_begin_48 : decode cX1_begin 48 = .ok (.getfield 18, 3) := kdo (kbl (kbr (kbr (kbr (kbr (kbr (kbr (kbr kdX1_begin_39))))))))
theorem dX1_begin_51 : decode cX1_begin 51 = .ok (.iload_n 2, 1) := kdo (kbl (kbr (kbr (kbr (kbr (kbr (kbr (kbr (kbr kdX1_begin_39)))))))))
theorem dX1_begin_52 : decode cX1_begin 52 = .ok (.iconst 0, 1) := kdo (kbl (kbr (kbr (kbr (kbr (kbr (kbr (kbr (kbr (kbr kdX1_begin_39))))))))))
theorem dX1_begin_53 : decode cX1_begin 53 = .ok (.iastore, 1) := kdo (kbl (kbr (kbr (kbr (kbr (kbr (kbr (kbr (kbr (kbr (kbr kdX1_begin_39)))))))))))
theorem dX1_begin_54 : decode cX1_begin 54 = .ok (.aload_n 0, 1) := kdo (kbl (kbr (kbr (kbr (kbr (kbr (kbr (kbr (kbr (kbr (kbr (kbr kdX1_begin_39))))))))))))
theorem dX1_begin_55 : decode cX1_begin 55 = .ok (.getfield 21, 3) := kdo (kbl (kbr (kbr (kbr (kbr (kbr (kbr (kbr (kbr (kbr (kbr (kbr (kbr kdX1_begin_39)))))))))))))
theorem dX1_begin_58 : decode cX1_begin 58 = .ok (.iload_n 2, 1) := kdo (kbl (kbr (kbr (kbr (kbr (kbr (kbr (kbr (kbr (kbr (kbr (kbr (kbr (kbr kdX1_begin_39))))))))))))))
theorem dX1_begin_59 : decode cX1_begin 59 = .ok (.iconst 0, 1) := kdo (kbl (kbr (kbr (kbr (kbr (kbr (kbr (kbr (kbr (kbr (kbr (kbr (kbr (kbr (kbr kdX1_begin_39)))))))))))))))
theorem dX1_begin_60 : decode cX1_begin 60 = .ok (.iastore, 1) := kdo (kbl (kbr (kbr (kbr (kbr (kbr (kbr (kbr (kbr (kbr (kbr (kbr (kbr (kbr (kbr (kbr kdX1_begin_39))))))))))))))))
theorem dX1_begin_61 : decode cX1_begin 61 = .ok (.iinc 2 1, 3) := kdo (kbl (kbr (kbr (kbr (kbr (kbr (kbr (kbr (kbr (kbr (kbr (kbr (kbr (kbr (kbr (kbr (kbr kdX1_begin_39)))))))))))))))))
theorem dX1_begin_64 : decode cX1_begin 64 = .ok (.goto (-37), 3) := kdo (kbl (kbr (kbr (kbr (kbr (kbr (kbr (kbr (kbr (kbr (kbr (kbr (kbr (kbr (kbr (kbr (kbr (kbr kdX1_begin_39))))))))))))))))))
theorem dX1_begin_67 : decode cX1_begin 67 = .ok (.return_, 1) := kdo (kbr (kbr (kbr (kbr (kbr (kbr (kbr (kbr (kbr (kbr (kbr (kbr (kbr (kbr (kbr (kbr (kbr (kbr kdX1_begin_39))))))))))))))))))
set_option maxRecDepth 20000 in
theorem kdX1_endDay_0 : (decide (decode cX1_endDay 0 = .ok (.aload_n 0, 1)) && (decide (decode cX1_endDay 1 = .ok (.dup, 1)) && (decide (decode cX1_endDay 2 = .ok (.getfield 36, 3)) && (decide (decode cX1_endDay 5 = .ok (.iconst 1, 1)) && (decide (decode cX1_endDay 6 = .ok (.iadd, 1)) && (decide (decode cX1_endDay 7 = .ok (.putfield 36, 3)) && (decide (decode cX1_endDay 10 = .ok (.aload_n 0, 1)) && (decide (decode cX1_endDay 11 = .ok (.dup, 1)) && (decide (decode cX1_endDay 12 = .ok (.getfield 46, 3)) && (decide (decode cX1_endDay 15 = .ok (.iload_n 1, 1)) && (decide (decode cX1_endDay 16 = .ok (.iadd, 1)) && (decide (decode cX1_endDay 17 = .ok (.putfield 46, 3)) && (decide (decode cX1_endDay 20 = .ok (.iconst 0, 1)) && (decide (decode cX1_endDay 21 = .ok (.istore_n 2, 1)) && (decide (decode cX1_endDay 22 = .ok (.iload_n 2, 1)) && (decide (decode cX1_endDay 23 = .ok (.bipush 6, 2)) && (decide (decode cX1_endDay 25 = .ok (.if_icmp .ge 28, 3)) && (decide (decode cX1_endDay 28 = .ok (.aload_n 0, 1)) && (decide (decode cX1_endDay 29 = .ok (.getfield 15, 3)) && (decide (decode cX1_endDay 32 = .ok (.iload_n 2, 1)) && (decide (decode cX1_endDay 33 = .ok (.aload_n 0, 1)) && (decide (decode cX1_endDay 34 = .ok (.getfield 9, 3)) && (decide (decode cX1_endDay 37 = .ok (.iload_n 2, 1)) && decide (decode cX1_endDay 38 = .ok (.iaload, 1))))))))))))))))))))))))) = true := by decide +kernel
theorem dX1_endDay_0 : decode cX1_endDay 0 = .ok (.aload_n 0, 1) := kdo (kbl kdX1_endDay_0)
theorem dX1_endDay_1 : decode cX1_endDay 1 = .ok (.dup, 1) := kdo (kbl (kbr kdX1_endDay_0))
theorem dX1_endDay_2 : decode cX1_endDay 2 = .ok (.getfield 36, 3) := kdo (kbl (kbr (kbr kdX1_endDay_0)))
theorem dX1_endDay_5 : decode cX1_endDay 5 = .ok (.iconst 1, 1) := kdo (kbl (kbr (kbr (kbr kdX1_endDay_0))))
theorem dX1_endDay_6 : decode cX1_endDay 6 = .ok (.iadd, 1) := kdo (kbl (kbr (kbr (kbr (kbr kdX1_endDay_0)))))
theorem dX1_endDay_7 : decode cX1_endDay 7 = .ok (.putfield 36, 3) := kdo (kbl (kbr (kbr (kbr (kbr (kbr kdX1_endDay_0))))))
theorem dX1_endDay_10 : decode cX1_endDay 10 = .ok (.aload_n 0, 1) := kdo (kbl (kbr (kbr (kbr (kbr (kbr (kbr kdX1_endDay_0)))))))
theorem dX1_endDay_11 : decode cX1_endDay 11 = .ok (.dup, 1) := kdo (kbl (kbr (kbr (kbr (kbr (kbr (kbr (kbr kdX1_endDay_0))))))))
theorem dX1_endDay_12 : decode cX1_endDay 12 = .ok (.getfield 46, 3) := kdo (kbl (kbr (kbr (kbr (kbr (kbr (kbr (kbr (kbr kdX1_endDay_0)))))))))
theorem dX1_endDay_15 : decode cX1_endDay 15 = .ok (.iload_n 1, 1) := kdo (kbl (kbr (kbr (kbr (kbr (kbr (kbr (kbr (kbr (kbr kdX1_endDay_0))))))))))
theorem dX1_endDay_16 : decode cX1_endDay 16 = .ok (.iadd, 1) := kdo (kbl (kbr (kbr (kbr (kbr (kbr (kbr (kbr (kbr (kbr (kbr kdX1_endDay_0)))))))))))
theorem dX1_endDay_17 : decode cX1_endDay 17 = .ok (.putfield 46, 3) := kdo (kbl (kbr (kbr (kbr (kbr (kbr (kbr (kbr (kbr (kbr (kbr (kbr kdX1_endDay_0))))))))))))
theorem dX1_endDay_20 : decode cX1_endDay 20 = .ok (.iconst 0, 1) := kdo (kbl (kbr (kbr (kbr (kbr (kbr (kbr (kbr (kbr (kbr (kbr (kbr (kbr kdX1_endDay_0)))))))))))))
theorem dX1_endDay_21 : decode cX1_endDay 21 = .ok (.istore_n 2, 1) := kdo (kbl (kbr (kbr (kbr (kbr (kbr (kbr (kbr (kbr (kbr (kbr (kbr (kbr (kbr kdX1_endDay_0))))))))))))))
theorem dX1_endDay_22 : decode cX1_endDay 22 = .ok (.iload_n 2, 1) := kdo (kbl (kbr (kbr (kbr (kbr (kbr (kbr (kbr (kbr (kbr (kbr (kbr (kbr (kbr (kbr kdX1_endDay_0)))))))))))))))
theorem dX1_endDay_23 : decode cX1_endDay 23 = .ok (.bipush 6, 2) := kdo (kbl (kbr (kbr (kbr (kbr (kbr (kbr (kbr (kbr (kbr (kbr (kbr (kbr (kbr (kbr (kbr kdX1_endDay_0))))))))))))))))
theorem dX1_endDay_25 : decode cX1_endDay 25 = .ok (.if_icmp .ge 28, 3) := kdo (kbl (kbr (kbr (kbr (kbr (kbr (kbr (kbr (kbr (kbr (kbr (kbr (kbr (kbr (kbr (kbr (kbr kdX1_endDay_0)))))))))))))))))
theorem dX1_endDay_28 : decode cX1_endDay 28 = .ok (.aload_n 0, 1) := kdo (kbl (kbr (kbr (kbr (kbr (kbr (kbr (kbr (kbr (kbr (kbr (kbr (kbr (kbr (kbr (kbr (kbr (kbr kdX1_endDay_0))))))))))))))))))
theorem dX1_endDay_29 : decode cX1_endDay 29 = .ok (.getfield 15, 3) := kdo (kbl (kbr (kbr (kbr (kbr (kbr (kbr (kbr (kbr (kbr (kbr (kbr (kbr (kbr (kbr (kbr (kbr (kbr (kbr kdX1_endDay_0)))))))))))))))))))
theorem dX1_endDay_32 : decode cX1_endDay 32 = .ok (.iload_n 2, 1) := kdo (kbl (kbr (kbr (kbr (kbr (kbr (kbr (kbr (kbr (kbr (kbr (kbr (kbr (kbr (kbr (kbr (kbr (kbr (kbr (kbr kdX1_endDay_0))))))))))))))))))))
theorem dX1_endDay_33 : decode cX1_endDay 33 = .ok (.aload_n 0, 1) := kdo (kbl (kbr (kbr (kbr (kbr (kbr (kbr (kbr (kbr (kbr (kbr (kbr (kbr (kbr (kbr (kbr (kbr (kbr (kbr (kbr (kbr kdX1_endDay_0)))))))))))))))))))))
theorem dX1_endDay_34 : decode cX1_endDay 34 = .ok (.getfield 9, 3) := kdo (kbl (kbr (kbr (kbr (kbr (kbr (kbr (kbr (kbr (kbr (kbr (kbr (kbr (kbr (kbr (kbr (kbr (kbr (kbr (kbr (kbr (kbr kdX1_endDay_0))))))))))))))))))))))
theorem dX1_endDay_37 : decode cX1_endDay 37 = .ok (.iload_n 2, 1) := kdo (kbl (kbr (kbr (kbr (kbr (kbr (kbr (kbr (kbr (kbr (kbr (kbr (kbr (kbr (kbr (kbr (kbr (kbr (kbr (kbr (kbr (kbr (kbr kdX1_endDay_0)))))))))))))))))))))))
theorem dX1_endDay_38 : decode cX1_endDay 38 = .ok (.iaload, 1) := kdo (kbr (kbr (kbr (kbr (kbr (kbr (kbr (kbr (kbr (kbr (kbr (kbr (kbr (kbr (kbr (kbr (kbr (kbr (kbr (kbr (kbr (kbr (kbr kdX1_endDay_0)))))))))))))))))))))))
set_option maxRecDepth 20000 in
theorem kdX1_endDay_39 : (decide (decode cX1_endDay 39 = .ok (.iastore, 1)) && (decide (decode cX1_endDay 40 = .ok (.aload_n 0, 1)) && (decide (decode cX1_endDay 41 = .ok (.getfield 21, 3)) && (decide (decode cX1_endDay 44 = .ok (.iload_n 2, 1)) && (decide (decode cX1_endDay 45 = .ok (.iconst 0, 1)) && (decide (decode cX1_endDay 46 = .ok (.iastore, 1)) && (decide (decode cX1_endDay 47 = .ok (.iinc 2 1, 3)) && (decide (decode cX1_endDay 50 = .ok (.goto (-28), 3)) && decide (decode cX1_endDay 53 = .ok (.return_, 1)))))))))) = true := by decide +kernel
theorem dX1_endDay_39 : decode cX1_endDay 39 = .ok (.iastore, 1) := kdo (kbl kdX1_endDay_39)
theorem dX1_endDay_40 : decode cX1_endDay 40 = .ok (.aload_n 0, 1) := kdo (kbl (kbr kdX1_endDay_39))
theorem dX1_endDay_41 : decode cX1_endDay 41 = .ok (.getfield 21, 3) := kdo (kbl (kbr (kbr kdX1_endDay_39)))
theorem dX1_endDay_44 : decode cX1_endDay 44 = .ok (.iload_n 2, 1) := kdo (kbl (kbr (kbr (kbr kdX1_endDay_39))))
theorem dX1_endDay_45 : decode cX1_endDay 45 = .ok (.iconst 0, 1) := kdo (kbl (kbr (kbr (kbr (kbr kdX1_endDay_39)))))
theorem dX1_endDay_46 : decode cX1_endDay 46 = .ok (.iastore, 1) := kdo (kbl (kbr (kbr (kbr (kbr (kbr kdX1_endDay_39))))))
theorem dX1_endDay_47 : decode cX1_endDay 47 = .ok (.iinc 2 1, 3) := kdo (kbl (kbr (kbr (kbr (kbr (kbr (kbr kdX1_endDay_39)))))))
theorem dX1_endDay_50 : decode cX1_endDay 50 = .ok (.goto (-28), 3) := kdo (kbl (kbr (kbr (kbr (kbr (kbr (kbr (kbr kdX1_endDay_39))))))))
theorem dX1_endDay_53 : decode cX1_endDay 53 = .ok (.return_, 1) := kdo (kbr (kbr (kbr (kbr (kbr (kbr (kbr (kbr kdX1_endDay_39))))))))
set_option maxRecDepth 20000 in
theorem kdX1_addFound_0 : (decide (decode cX1_addFound 0 = .ok (.aload_n 0, 1)) && (decide (decode cX1_addFound 1 = .ok (.getfield 49, 3)) && (decide (decode cX1_addFound 4 = .ok (.ifCond .lt 12, 3)) && (decide (decode cX1_addFound 7 = .ok (.aload_n 0, 1)) && (decide (decode cX1_addFound 8 = .ok (.getfield 49, 3)) && (decide (decode cX1_addFound 11 = .ok (.bipush 6, 2)) && (decide (decode cX1_addFound 13 = .ok (.if_icmp .lt 5, 3)) && (decide (decode cX1_addFound 16 = .ok (.iconst 0, 1)) && (decide (decode cX1_addFound 17 = .ok (.ireturn, 1)) && (decide (decode cX1_addFound 18 = .ok (.aload_n 0, 1)) && (decide (decode cX1_addFound 19 = .ok (.getfield 24, 3)) && (decide (decode cX1_addFound 22 = .ok (.aload_n 0, 1)) && (decide (decode cX1_addFound 23 = .ok (.getfield 49, 3)) && (decide (decode cX1_addFound 26 = .ok (.iload_n 1, 1)) && (decide (decode cX1_addFound 27 = .ok (.iastore, 1)) && (decide (decode cX1_addFound 28 = .ok (.aload_n 0, 1)) && (decide (decode cX1_addFound 29 = .ok (.getfield 27, 3)) && (decide (decode cX1_addFound 32 = .ok (.aload_n 0, 1)) && (decide (decode cX1_addFound 33 = .ok (.getfield 49, 3)) && (decide (decode cX1_addFound 36 = .ok (.iload_n 2, 1)) && (decide (decode cX1_addFound 37 = .ok (.iastore, 1)) && (decide (decode cX1_addFound 38 = .ok (.aload_n 0, 1)) && (decide (decode cX1_addFound 39 = .ok (.getfield 30, 3)) && decide (decode cX1_addFound 42 = .ok (.aload_n 0, 1))))))))))))))))))))))))) = true := by decide +kernel
theorem dX1_addFound_0 : decode cX1_addFound 0 = .ok (.aload_n 0, 1) := kdo (kbl kdX1_addFound_0)
theorem dX1_addFound_1 : decode cX1_addFound 1 = .ok (.getfield 49, 3) := kdo (kbl (kbr kdX1_addFound_0))
theorem dX1_addFound_4 : decode cX1_addFound 4 = .ok (.ifCond .lt 12, 3) := kdo (kbl (kbr (kbr kdX1_addFound_0)))
theorem dX1_addFound_7 : decode cX1_addFound 7 = .ok (.aload_n 0, 1) := kdo (kbl (kbr (kbr (kbr kdX1_addFound_0))))
theorem dX1_addFound_8 : decode cX1_addFound 8 = .ok (.getfield 49, 3) := kdo (kbl (kbr (kbr (kbr (kbr kdX1_addFound_0)))))
theorem dX1_addFound_11 : decode cX1_addFound 11 = .ok (.bipush 6, 2) := kdo (kbl (kbr (kbr (kbr (kbr (kbr kdX1_addFound_0))))))
theorem dX1_addFound_13 : decode cX1_addFound 13 = .ok (.if_icmp .lt 5, 3) := kdo (kbl (kbr (kbr (kbr (kbr (kbr (kbr kdX1_addFound_0)))))))
theorem dX1_addFound_16 : decode cX1_addFound 16 = .ok (.iconst 0, 1) := kdo (kbl (kbr (kbr (kbr (kbr (kbr (kbr (kbr kdX1_addFound_0))))))))
theorem dX1_addFound_17 : decode cX1_addFound 17 = .ok (.ireturn, 1) := kdo (kbl (kbr (kbr (kbr (kbr (kbr (kbr (kbr (kbr kdX1_addFound_0)))))))))
theorem dX1_addFound_18 : decode cX1_addFound 18 = .ok (.aload_n 0, 1) := kdo (kbl (kbr (kbr (kbr (kbr (kbr (kbr (kbr (kbr (kbr kdX1_addFound_0))))))))))
theorem dX1_addFound_19 : decode cX1_addFound 19 = .ok (.getfield 24, 3) := kdo (kbl (kbr (kbr (kbr (kbr (kbr (kbr (kbr (kbr (kbr (kbr kdX1_addFound_0)))))))))))
theorem dX1_addFound_22 : decode cX1_addFound 22 = .ok (.aload_n 0, 1) := kdo (kbl (kbr (kbr (kbr (kbr (kbr (kbr (kbr (kbr (kbr (kbr (kbr kdX1_addFound_0))))))))))))
theorem dX1_addFound_23 : decode cX1_addFound 23 = .ok (.getfield 49, 3) := kdo (kbl (kbr (kbr (kbr (kbr (kbr (kbr (kbr (kbr (kbr (kbr (kbr (kbr kdX1_addFound_0)))))))))))))
theorem dX1_addFound_26 : decode cX1_addFound 26 = .ok (.iload_n 1, 1) := kdo (kbl (kbr (kbr (kbr (kbr (kbr (kbr (kbr (kbr (kbr (kbr (kbr (kbr (kbr kdX1_addFound_0))))))))))))))
theorem dX1_addFound_27 : decode cX1_addFound 27 = .ok (.iastore, 1) := kdo (kbl (kbr (kbr (kbr (kbr (kbr (kbr (kbr (kbr (kbr (kbr (kbr (kbr (kbr (kbr kdX1_addFound_0)))))))))))))))
theorem dX1_addFound_28 : decode cX1_addFound 28 = .ok (.aload_n 0, 1) := kdo (kbl (kbr (kbr (kbr (kbr (kbr (kbr (kbr (kbr (kbr (kbr (kbr (kbr (kbr (kbr (kbr kdX1_addFound_0))))))))))))))))
theorem dX1_addFound_29 : decode cX1_addFound 29 = .ok (.getfield 27, 3) := kdo (kbl (kbr (kbr (kbr (kbr (kbr (kbr (kbr (kbr (kbr (kbr (kbr (kbr (kbr (kbr (kbr (kbr kdX1_addFound_0)))))))))))))))))
theorem dX1_addFound_32 : decode cX1_addFound 32 = .ok (.aload_n 0, 1) := kdo (kbl (kbr (kbr (kbr (kbr (kbr (kbr (kbr (kbr (kbr (kbr (kbr (kbr (kbr (kbr (kbr (kbr (kbr kdX1_addFound_0))))))))))))))))))
theorem dX1_addFound_33 : decode cX1_addFound 33 = .ok (.getfield 49, 3) := kdo (kbl (kbr (kbr (kbr (kbr (kbr (kbr (kbr (kbr (kbr (kbr (kbr (kbr (kbr (kbr (kbr (kbr (kbr (kbr kdX1_addFound_0)))))))))))))))))))
theorem dX1_addFound_36 : decode cX1_addFound 36 = .ok (.iload_n 2, 1) := kdo (kbl (kbr (kbr (kbr (kbr (kbr (kbr (kbr (kbr (kbr (kbr (kbr (kbr (kbr (kbr (kbr (kbr (kbr (kbr (kbr kdX1_addFound_0))))))))))))))))))))
theorem dX1_addFound_37 : decode cX1_addFound 37 = .ok (.iastore, 1) := kdo (kbl (kbr (kbr (kbr (kbr (kbr (kbr (kbr (kbr (kbr (kbr (kbr (kbr (kbr (kbr (kbr (kbr (kbr (kbr (kbr (kbr kdX1_addFound_0)))))))))))))))))))))
theorem dX1_addFound_38 : decode cX1_addFound 38 = .ok (.aload_n 0, 1) := kdo (kbl (kbr (kbr (kbr (kbr (kbr (kbr (kbr (kbr (kbr (kbr (kbr (kbr (kbr (kbr (kbr (kbr (kbr (kbr (kbr (kbr (kbr kdX1_addFound_0))))))))))))))))))))))
theorem dX1_addFound_39 : decode cX1_addFound 39 = .ok (.getfield 30, 3) := kdo (kbl (kbr (kbr (kbr (kbr (kbr (kbr (kbr (kbr (kbr (kbr (kbr (kbr (kbr (kbr (kbr (kbr (kbr (kbr (kbr (kbr (kbr (kbr kdX1_addFound_0)))))))))))))))))))))))
theorem dX1_addFound_42 : decode cX1_addFound 42 = .ok (.aload_n 0, 1) := kdo (kbr (kbr (kbr (kbr (kbr (kbr (kbr (kbr (kbr (kbr (kbr (kbr (kbr (kbr (kbr (kbr (kbr (kbr (kbr (kbr (kbr (kbr (kbr kdX1_addFound_0)))))))))))))))))))))))
set_option maxRecDepth 20000 in
theorem kdX1_addFound_43 : (decide (decode cX1_addFound 43 = .ok (.getfield 49, 3)) && (decide (decode cX1_addFound 46 = .ok (.iload_n 3, 1)) && (decide (decode cX1_addFound 47 = .ok (.iastore, 1)) && (decide (decode cX1_addFound 48 = .ok (.aload_n 0, 1)) && (decide (decode cX1_addFound 49 = .ok (.getfield 33, 3)) && (decide (decode cX1_addFound 52 = .ok (.aload_n 0, 1)) && (decide (decode cX1_addFound 53 = .ok (.getfield 49, 3)) && (decide (decode cX1_addFound 56 = .ok (.iload 4, 2)) && (decide (decode cX1_addFound 58 = .ok (.iastore, 1)) && (decide (decode cX1_addFound 59 = .ok (.aload_n 0, 1)) && (decide (decode cX1_addFound 60 = .ok (.dup, 1)) && (decide (decode cX1_addFound 61 = .ok (.getfield 49, 3)) && (decide (decode cX1_addFound 64 = .ok (.iconst 1, 1)) && (decide (decode cX1_addFound 65 = .ok (.iadd, 1)) && (decide (decode cX1_addFound 66 = .ok (.putfield 49, 3)) && (decide (decode cX1_addFound 69 = .ok (.iconst 1, 1)) && decide (decode cX1_addFound 70 = .ok (.ireturn, 1)))))))))))))))))) = true := by decide +kernel
theorem dX1_addFound_43 : decode cX1_addFound 43 = .ok (.getfield 49, 3) := kdo (kbl kdX1_addFound_43)
theorem dX1_addFound_46 : decode cX1_addFound 46 = .ok (.iload_n 3, 1) := kdo (kbl (kbr kdX1_addFound_43))
theorem dX1_addFound_47 : decode cX1_addFound 47 = .ok (.iastore, 1) := kdo (kbl (kbr (kbr kdX1_addFound_43)))
theorem dX1_addFound_48 : decode cX1_addFound 48 = .ok (.aload_n 0, 1) := kdo (kbl (kbr (kbr (kbr kdX1_addFound_43))))
theorem dX1_addFound_49 : decode cX1_addFound 49 = .ok (.getfield 33, 3) := kdo (kbl (kbr (kbr (kbr (kbr kdX1_addFound_43)))))
theorem dX1_addFound_52 : decode cX1_addFound 52 = .ok (.aload_n 0, 1) := kdo (kbl (kbr (kbr (kbr (kbr (kbr kdX1_addFound_43))))))
theorem dX1_addFound_53 : decode cX1_addFound 53 = .ok (.getfield 49, 3) := kdo (kbl (kbr (kbr (kbr (kbr (kbr (kbr kdX1_addFound_43)))))))
theorem dX1_addFound_56 : decode cX1_addFound 56 = .ok (.iload 4, 2) := kdo (kbl (kbr (kbr (kbr (kbr (kbr (kbr (kbr kdX1_addFound_43))))))))
theorem dX1_addFound_58 : decode cX1_addFound 58 = .ok (.iastore, 1) := kdo (kbl (kbr (kbr (kbr (kbr (kbr (kbr (kbr (kbr kdX1_addFound_43)))))))))
theorem dX1_addFound_59 : decode cX1_addFound 59 = .ok (.aload_n 0, 1) := kdo (kbl (kbr (kbr (kbr (kbr (kbr (kbr (kbr (kbr (kbr kdX1_addFound_43))))))))))
theorem dX1_addFound_60 : decode cX1_addFound 60 = .ok (.dup, 1) := kdo (kbl (kbr (kbr (kbr (kbr (kbr (kbr (kbr (kbr (kbr (kbr kdX1_addFound_43)))))))))))
theorem dX1_addFound_61 : decode cX1_addFound 61 = .ok (.getfield 49, 3) := kdo (kbl (kbr (kbr (kbr (kbr (kbr (kbr (kbr (kbr (kbr (kbr (kbr kdX1_addFound_43))))))))))))
theorem dX1_addFound_64 : decode cX1_addFound 64 = .ok (.iconst 1, 1) := kdo (kbl (kbr (kbr (kbr (kbr (kbr (kbr (kbr (kbr (kbr (kbr (kbr (kbr kdX1_addFound_43)))))))))))))
theorem dX1_addFound_65 : decode cX1_addFound 65 = .ok (.iadd, 1) := kdo (kbl (kbr (kbr (kbr (kbr (kbr (kbr (kbr (kbr (kbr (kbr (kbr (kbr (kbr kdX1_addFound_43))))))))))))))
theorem dX1_addFound_66 : decode cX1_addFound 66 = .ok (.putfield 49, 3) := kdo (kbl (kbr (kbr (kbr (kbr (kbr (kbr (kbr (kbr (kbr (kbr (kbr (kbr (kbr (kbr kdX1_addFound_43)))))))))))))))
theorem dX1_addFound_69 : decode cX1_addFound 69 = .ok (.iconst 1, 1) := kdo (kbl (kbr (kbr (kbr (kbr (kbr (kbr (kbr (kbr (kbr (kbr (kbr (kbr (kbr (kbr (kbr kdX1_addFound_43))))))))))))))))
theorem dX1_addFound_70 : decode cX1_addFound 70 = .ok (.ireturn, 1) := kdo (kbr (kbr (kbr (kbr (kbr (kbr (kbr (kbr (kbr (kbr (kbr (kbr (kbr (kbr (kbr (kbr kdX1_addFound_43))))))))))))))))
set_option maxRecDepth 20000 in
theorem kdX1_copy_0 : (decide (decode cX1_copy 0 = .ok (.aload_n 0, 1)) && (decide (decode cX1_copy 1 = .ok (.aload_n 1, 1)) && (decide (decode cX1_copy 2 = .ok (.getfield 36, 3)) && (decide (decode cX1_copy 5 = .ok (.putfield 36, 3)) && (decide (decode cX1_copy 8 = .ok (.aload_n 0, 1)) && (decide (decode cX1_copy 9 = .ok (.aload_n 1, 1)) && (decide (decode cX1_copy 10 = .ok (.getfield 40, 3)) && (decide (decode cX1_copy 13 = .ok (.putfield 40, 3)) && (decide (decode cX1_copy 16 = .ok (.aload_n 0, 1)) && (decide (decode cX1_copy 17 = .ok (.aload_n 1, 1)) && (decide (decode cX1_copy 18 = .ok (.getfield 43, 3)) && (decide (decode cX1_copy 21 = .ok (.putfield 43, 3)) && (decide (decode cX1_copy 24 = .ok (.aload_n 0, 1)) && (decide (decode cX1_copy 25 = .ok (.aload_n 1, 1)) && (decide (decode cX1_copy 26 = .ok (.getfield 46, 3)) && (decide (decode cX1_copy 29 = .ok (.putfield 46, 3)) && (decide (decode cX1_copy 32 = .ok (.aload_n 0, 1)) && (decide (decode cX1_copy 33 = .ok (.aload_n 1, 1)) && (decide (decode cX1_copy 34 = .ok (.getfield 49, 3)) && (decide (decode cX1_copy 37 = .ok (.putfield 49, 3)) && (decide (decode cX1_copy 40 = .ok (.aload_n 1, 1)) && (decide (decode cX1_copy 41 = .ok (.getfield 9, 3)) && (decide (decode cX1_copy 44 = .ok (.aload_n 0, 1)) && decide (decode cX1_copy 45 = .ok (.getfield 9, 3))))))))))))))))))))))))) = true := by decide +kernel
theorem dX1_copy_0 : decode cX1_copy 0 = .ok (.aload_n 0, 1) := kdo (kbl kdX1_copy_0)
theorem dX1_copy_1 : decode cX1_copy 1 = .ok (.aload_n 1, 1) := kdo (kbl (kbr kdX1_copy_0))
theorem dX1_copy_2 : decode cX1_copy 2 = .ok (.getfield 36, 3) := kdo (kbl (kbr (kbr kdX1_copy_0)))
theorem dX1_copy_5 : decode cX1_copy 5 = .ok (.putfield 36, 3) := kdo (kbl (kbr (kbr (kbr kdX1_copy_0))))
theorem dX1_copy_8 : decode cX1_copy 8 = .ok (.aload_n 0, 1) := kdo (kbl (kbr (kbr (kbr (kbr kdX1_copy_0)))))
theorem dX1_copy_9 : decode cX1_copy 9 = .ok (.aload_n 1, 1) := kdo (kbl (kbr (kbr (kbr (kbr (kbr kdX1_copy_0))))))
theorem dX1_copy_10 : decode cX1_copy 10 = .ok (.getfield 40, 3) := kdo (kbl (kbr (kbr (kbr (kbr (kbr (kbr kdX1_copy_0)))))))
theorem dX1_copy_13 : decode cX1_copy 13 = .ok (.putfield 40, 3) := kdo (kbl (kbr (kbr (kbr (kbr (kbr (kbr (kbr kdX1_copy_0))))))))
theorem dX1_copy_16 : decode cX1_copy 16 = .ok (.aload_n 0, 1) := kdo (kbl (kbr (kbr (kbr (kbr (kbr (kbr (kbr (kbr kdX1_copy_0)))))))))
theorem dX1_copy_17 : decode cX1_copy 17 = .ok (.aload_n 1, 1) := kdo (kbl (kbr (kbr (kbr (kbr (kbr (kbr (kbr (kbr (kbr kdX1_copy_0))))))))))
theorem dX1_copy_18 : decode cX1_copy 18 = .ok (.getfield 43, 3) := kdo (kbl (kbr (kbr (kbr (kbr (kbr (kbr (kbr (kbr (kbr (kbr kdX1_copy_0)))))))))))
theorem dX1_copy_21 : decode cX1_copy 21 = .ok (.putfield 43, 3) := kdo (kbl (kbr (kbr (kbr (kbr (kbr (kbr (kbr (kbr (kbr (kbr (kbr kdX1_copy_0))))))))))))
theorem dX1_copy_24 : decode cX1_copy 24 = .ok (.aload_n 0, 1) := kdo (kbl (kbr (kbr (kbr (kbr (kbr (kbr (kbr (kbr (kbr (kbr (kbr (kbr kdX1_copy_0)))))))))))))
theorem dX1_copy_25 : decode cX1_copy 25 = .ok (.aload_n 1, 1) := kdo (kbl (kbr (kbr (kbr (kbr (kbr (kbr (kbr (kbr (kbr (kbr (kbr (kbr (kbr kdX1_copy_0))))))))))))))
theorem dX1_copy_26 : decode cX1_copy 26 = .ok (.getfield 46, 3) := kdo (kbl (kbr (kbr (kbr (kbr (kbr (kbr (kbr (kbr (kbr (kbr (kbr (kbr (kbr (kbr kdX1_copy_0)))))))))))))))
theorem dX1_copy_29 : decode cX1_copy 29 = .ok (.putfield 46, 3) := kdo (kbl (kbr (kbr (kbr (kbr (kbr (kbr (kbr (kbr (kbr (kbr (kbr (kbr (kbr (kbr (kbr kdX1_copy_0))))))))))))))))
theorem dX1_copy_32 : decode cX1_copy 32 = .ok (.aload_n 0, 1) := kdo (kbl (kbr (kbr (kbr (kbr (kbr (kbr (kbr (kbr (kbr (kbr (kbr (kbr (kbr (kbr (kbr (kbr kdX1_copy_0)))))))))))))))))
theorem dX1_copy_33 : decode cX1_copy 33 = .ok (.aload_n 1, 1) := kdo (kbl (kbr (kbr (kbr (kbr (kbr (kbr (kbr (kbr (kbr (kbr (kbr (kbr (kbr (kbr (kbr (kbr (kbr kdX1_copy_0))))))))))))))))))
theorem dX1_copy_34 : decode cX1_copy 34 = .ok (.getfield 49, 3) := kdo (kbl (kbr (kbr (kbr (kbr (kbr (kbr (kbr (kbr (kbr (kbr (kbr (kbr (kbr (kbr (kbr (kbr (kbr (kbr kdX1_copy_0)))))))))))))))))))
theorem dX1_copy_37 : decode cX1_copy 37 = .ok (.putfield 49, 3) := kdo (kbl (kbr (kbr (kbr (kbr (kbr (kbr (kbr (kbr (kbr (kbr (kbr (kbr (kbr (kbr (kbr (kbr (kbr (kbr (kbr kdX1_copy_0))))))))))))))))))))
theorem dX1_copy_40 : decode cX1_copy 40 = .ok (.aload_n 1, 1) := kdo (kbl (kbr (kbr (kbr (kbr (kbr (kbr (kbr (kbr (kbr (kbr (kbr (kbr (kbr (kbr (kbr (kbr (kbr (kbr (kbr (kbr kdX1_copy_0)))))))))))))))))))))
theorem dX1_copy_41 : decode cX1_copy 41 = .ok (.getfield 9, 3) := kdo (kbl (kbr (kbr (kbr (kbr (kbr (kbr (kbr (kbr (kbr (kbr (kbr (kbr (kbr (kbr (kbr (kbr (kbr (kbr (kbr (kbr (kbr kdX1_copy_0))))))))))))))))))))))
theorem dX1_copy_44 : decode cX1_copy 44 = .ok (.aload_n 0, 1) := kdo (kbl (kbr (kbr (kbr (kbr (kbr (kbr (kbr (kbr (kbr (kbr (kbr (kbr (kbr (kbr (kbr (kbr (kbr (kbr (kbr (kbr (kbr (kbr kdX1_copy_0)))))))))))))))))))))))
theorem dX1_copy_45 : decode cX1_copy 45 = .ok (.getfield 9, 3) := kdo (kbr (kbr (kbr (kbr (kbr (kbr (kbr (kbr (kbr (kbr (kbr (kbr (kbr (kbr (kbr (kbr (kbr (kbr (kbr (kbr (kbr (kbr (kbr kdX1_copy_0)))))))))))))))))))))))
set_option maxRecDepth 20000 in
theorem kdX1_copy_48 : (decide (decode cX1_copy 48 = .ok (.invokestatic 52, 3)) && (decide (decode cX1_copy 51 = .ok (.aload_n 1, 1)) && (decide (decode cX1_copy 52 = .ok (.getfield 15, 3)) && (decide (decode cX1_copy 55 = .ok (.aload_n 0, 1)) && (decide (decode cX1_copy 56 = .ok (.getfield 15, 3)) && (decide (decode cX1_copy 59 = .ok (.invokestatic 52, 3)) && (decide (decode cX1_copy 62 = .ok (.aload_n 1, 1)) && (decide (decode cX1_copy 63 = .ok (.getfield 18, 3)) && (decide (decode cX1_copy 66 = .ok (.aload_n 0, 1)) && (decide (decode cX1_copy 67 = .ok (.getfield 18, 3)) && (decide (decode cX1_copy 70 = .ok (.invokestatic 52, 3)) && (decide (decode cX1_copy 73 = .ok (.aload_n 1, 1)) && (decide (decode cX1_copy 74 = .ok (.getfield 21, 3)) && (decide (decode cX1_copy 77 = .ok (.aload_n 0, 1)) && (decide (decode cX1_copy 78 = .ok (.getfield 21, 3)) && (decide (decode cX1_copy 81 = .ok (.invokestatic 52, 3)) && (decide (decode cX1_copy 84 = .ok (.aload_n 1, 1)) && (decide (decode cX1_copy 85 = .ok (.getfield 24, 3)) && (decide (decode cX1_copy 88 = .ok (.aload_n 0, 1)) && (decide (decode cX1_copy 89 = .ok (.getfield 24, 3)) && (decide (decode cX1_copy 92 = .ok (.invokestatic 52, 3)) && (decide (decode cX1_copy 95 = .ok (.aload_n 1, 1)) && (decide (decode cX1_copy 96 = .ok (.getfield 27, 3)) && decide (decode cX1_copy 99 = .ok (.aload_n 0, 1))))))))))))))))))))))))) = true := by decide +kernel
theorem dX1_copy_48 : decode cX1_copy 48 = .ok (.invokestatic 52, 3) := kdo (kbl kdX1_copy_48)
theorem dX1_copy_51 : decode cX1_copy 51 = .ok (.aload_n 1, 1) := kdo (kbl (kbr kdX1_copy_48))
theorem dX1_copy_52 : decode cX1_copy 52 = .ok (.getfield 15, 3) := kdo (kbl (kbr (kbr kdX1_copy_48)))
theorem dX1_copy_55 : decode cX1_copy 55 = .ok (.aload_n 0, 1) := kdo (kbl (kbr (kbr (kbr kdX1_copy_48))))
theorem dX1_copy_56 : decode cX1_copy 56 = .ok (.getfield 15, 3) := kdo (kbl (kbr (kbr (kbr (kbr kdX1_copy_48)))))
theorem dX1_copy_59 : decode cX1_copy 59 = .ok (.invokestatic 52, 3) := kdo (kbl (kbr (kbr (kbr (kbr (kbr kdX1_copy_48))))))
theorem dX1_copy_62 : decode cX1_copy 62 = .ok (.aload_n 1, 1) := kdo (kbl (kbr (kbr (kbr (kbr (kbr (kbr kdX1_copy_48)))))))
theorem dX1_copy_63 : decode cX1_copy 63 = .ok (.getfield 18, 3) := kdo (kbl (kbr (kbr (kbr (kbr (kbr (kbr (kbr kdX1_copy_48))))))))
theorem dX1_copy_66 : decode cX1_copy 66 = .ok (.aload_n 0, 1) := kdo (kbl (kbr (kbr (kbr (kbr (kbr (kbr (kbr (kbr kdX1_copy_48)))))))))
theorem dX1_copy_67 : decode cX1_copy 67 = .ok (.getfield 18, 3) := kdo (kbl (kbr (kbr (kbr (kbr (kbr (kbr (kbr (kbr (kbr kdX1_copy_48))))))))))
theorem dX1_copy_70 : decode cX1_copy 70 = .ok (.invokestatic 52, 3) := kdo (kbl (kbr (kbr (kbr (kbr (kbr (kbr (kbr (kbr (kbr (kbr kdX1_copy_48)))))))))))
theorem dX1_copy_73 : decode cX1_copy 73 = .ok (.aload_n 1, 1) := kdo (kbl (kbr (kbr (kbr (kbr (kbr (kbr (kbr (kbr (kbr (kbr (kbr kdX1_copy_48))))))))))))
theorem dX1_copy_74 : decode cX1_copy 74 = .ok (.getfield 21, 3) := kdo (kbl (kbr (kbr (kbr (kbr (kbr (kbr (kbr (kbr (kbr (kbr (kbr (kbr kdX1_copy_48)))))))))))))
theorem dX1_copy_77 : decode cX1_copy 77 = .ok (.aload_n 0, 1) := kdo (kbl (kbr (kbr (kbr (kbr (kbr (kbr (kbr (kbr (kbr (kbr (kbr (kbr (kbr kdX1_copy_48))))))))))))))
theorem dX1_copy_78 : decode cX1_copy 78 = .ok (.getfield 21, 3) := kdo (kbl (kbr (kbr (kbr (kbr (kbr (kbr (kbr (kbr (kbr (kbr (kbr (kbr (kbr (kbr kdX1_copy_48)))))))))))))))
theorem dX1_copy_81 : decode cX1_copy 81 = .ok (.invokestatic 52, 3) := kdo (kbl (kbr (kbr (kbr (kbr (kbr (kbr (kbr (kbr (kbr (kbr (kbr (kbr (kbr (kbr (kbr kdX1_copy_48))))))))))))))))
theorem dX1_copy_84 : decode cX1_copy 84 = .ok (.aload_n 1, 1) := kdo (kbl (kbr (kbr (kbr (kbr (kbr (kbr (kbr (kbr (kbr (kbr (kbr (kbr (kbr (kbr (kbr (kbr kdX1_copy_48)))))))))))))))))
theorem dX1_copy_85 : decode cX1_copy 85 = .ok (.getfield 24, 3) := kdo (kbl (kbr (kbr (kbr (kbr (kbr (kbr (kbr (kbr (kbr (kbr (kbr (kbr (kbr (kbr (kbr (kbr (kbr kdX1_copy_48))))))))))))))))))
theorem dX1_copy_88 : decode cX1_copy 88 = .ok (.aload_n 0, 1) := kdo (kbl (kbr (kbr (kbr (kbr (kbr (kbr (kbr (kbr (kbr (kbr (kbr (kbr (kbr (kbr (kbr (kbr (kbr (kbr kdX1_copy_48)))))))))))))))))))
theorem dX1_copy_89 : decode cX1_copy 89 = .ok (.getfield 24, 3) := kdo (kbl (kbr (kbr (kbr (kbr (kbr (kbr (kbr (kbr (kbr (kbr (kbr (kbr (kbr (kbr (kbr (kbr (kbr (kbr (kbr kdX1_copy_48))))))))))))))))))))
theorem dX1_copy_92 : decode cX1_copy 92 = .ok (.invokestatic 52, 3) := kdo (kbl (kbr (kbr (kbr (kbr (kbr (kbr (kbr (kbr (kbr (kbr (kbr (kbr (kbr (kbr (kbr (kbr (kbr (kbr (kbr (kbr kdX1_copy_48)))))))))))))))))))))
theorem dX1_copy_95 : decode cX1_copy 95 = .ok (.aload_n 1, 1) := kdo (kbl (kbr (kbr (kbr (kbr (kbr (kbr (kbr (kbr (kbr (kbr (kbr (kbr (kbr (kbr (kbr (kbr (kbr (kbr (kbr (kbr (kbr kdX1_copy_48))))))))))))))))))))))
theorem dX1_copy_96 : decode cX1_copy 96 = .ok (.getfield 27, 3) := kdo (kbl (kbr (kbr (kbr (kbr (kbr (kbr (kbr (kbr (kbr (kbr (kbr (kbr (kbr (kbr (kbr (kbr (kbr (kbr (kbr (kbr (kbr (kbr kdX1_copy_48)))))))))))))))))))))))
theorem dX1_copy_99 : decode cX1_copy 99 = .ok (.aload_n 0, 1) := kdo (kbr (kbr (kbr (kbr (kbr (kbr (kbr (kbr (kbr (kbr (kbr (kbr (kbr (kbr (kbr (kbr (kbr (kbr (kbr (kbr (kbr (kbr (kbr kdX1_copy_48)))))))))))))))))))))))
set_option maxRecDepth 20000 in
theorem kdX1_copy_100 : (decide (decode cX1_copy 100 = .ok (.getfield 27, 3)) && (decide (decode cX1_copy 103 = .ok (.invokestatic 52, 3)) && (decide (decode cX1_copy 106 = .ok (.aload_n 1, 1)) && (decide (decode cX1_copy 107 = .ok (.getfield 30, 3)) && (decide (decode cX1_copy 110 = .ok (.aload_n 0, 1)) && (decide (decode cX1_copy 111 = .ok (.getfield 30, 3)) && (decide (decode cX1_copy 114 = .ok (.invokestatic 52, 3)) && (decide (decode cX1_copy 117 = .ok (.aload_n 1, 1)) && (decide (decode cX1_copy 118 = .ok (.getfield 33, 3)) && (decide (decode cX1_copy 121 = .ok (.aload_n 0, 1)) && (decide (decode cX1_copy 122 = .ok (.getfield 33, 3)) && (decide (decode cX1_copy 125 = .ok (.invokestatic 52, 3)) && decide (decode cX1_copy 128 = .ok (.return_, 1)))))))))))))) = true := by decide +kernel
theorem dX1_copy_100 : decode cX1_copy 100 = .ok (.getfield 27, 3) := kdo (kbl kdX1_copy_100)
theorem dX1_copy_103 : decode cX1_copy 103 = .ok (.invokestatic 52, 3) := kdo (kbl (kbr kdX1_copy_100))
theorem dX1_copy_106 : decode cX1_copy 106 = .ok (.aload_n 1, 1) := kdo (kbl (kbr (kbr kdX1_copy_100)))
theorem dX1_copy_107 : decode cX1_copy 107 = .ok (.getfield 30, 3) := kdo (kbl (kbr (kbr (kbr kdX1_copy_100))))
theorem dX1_copy_110 : decode cX1_copy 110 = .ok (.aload_n 0, 1) := kdo (kbl (kbr (kbr (kbr (kbr kdX1_copy_100)))))
theorem dX1_copy_111 : decode cX1_copy 111 = .ok (.getfield 30, 3) := kdo (kbl (kbr (kbr (kbr (kbr (kbr kdX1_copy_100))))))
theorem dX1_copy_114 : decode cX1_copy 114 = .ok (.invokestatic 52, 3) := kdo (kbl (kbr (kbr (kbr (kbr (kbr (kbr kdX1_copy_100)))))))
theorem dX1_copy_117 : decode cX1_copy 117 = .ok (.aload_n 1, 1) := kdo (kbl (kbr (kbr (kbr (kbr (kbr (kbr (kbr kdX1_copy_100))))))))
theorem dX1_copy_118 : decode cX1_copy 118 = .ok (.getfield 33, 3) := kdo (kbl (kbr (kbr (kbr (kbr (kbr (kbr (kbr (kbr kdX1_copy_100)))))))))
theorem dX1_copy_121 : decode cX1_copy 121 = .ok (.aload_n 0, 1) := kdo (kbl (kbr (kbr (kbr (kbr (kbr (kbr (kbr (kbr (kbr kdX1_copy_100))))))))))
theorem dX1_copy_122 : decode cX1_copy 122 = .ok (.getfield 33, 3) := kdo (kbl (kbr (kbr (kbr (kbr (kbr (kbr (kbr (kbr (kbr (kbr kdX1_copy_100)))))))))))
theorem dX1_copy_125 : decode cX1_copy 125 = .ok (.invokestatic 52, 3) := kdo (kbl (kbr (kbr (kbr (kbr (kbr (kbr (kbr (kbr (kbr (kbr (kbr kdX1_copy_100))))))))))))
theorem dX1_copy_128 : decode cX1_copy 128 = .ok (.return_, 1) := kdo (kbr (kbr (kbr (kbr (kbr (kbr (kbr (kbr (kbr (kbr (kbr (kbr kdX1_copy_100))))))))))))
set_option maxRecDepth 20000 in
theorem kdX1_copyRow_0 : (decide (decode cX1_copyRow 0 = .ok (.aload_n 0, 1)) && (decide (decode cX1_copyRow 1 = .ok (.iconst 0, 1)) && (decide (decode cX1_copyRow 2 = .ok (.aload_n 1, 1)) && (decide (decode cX1_copyRow 3 = .ok (.iconst 0, 1)) && (decide (decode cX1_copyRow 4 = .ok (.aload_n 0, 1)) && (decide (decode cX1_copyRow 5 = .ok (.arraylength, 1)) && (decide (decode cX1_copyRow 6 = .ok (.aload_n 1, 1)) && (decide (decode cX1_copyRow 7 = .ok (.arraylength, 1)) && (decide (decode cX1_copyRow 8 = .ok (.invokestatic 56, 3)) && (decide (decode cX1_copyRow 11 = .ok (.invokestatic 62, 3)) && decide (decode cX1_copyRow 14 = .ok (.return_, 1)))))))))))) = true := by decide +kernel
theorem dX1_copyRow_0 : decode cX1_copyRow 0 = .ok (.aload_n 0, 1) := kdo (kbl kdX1_copyRow_0)
theorem dX1_copyRow_1 : decode cX1_copyRow 1 = .ok (.iconst 0, 1) := kdo (kbl (kbr kdX1_copyRow_0))
theorem dX1_copyRow_2 : decode cX1_copyRow 2 = .ok (.aload_n 1, 1) := kdo (kbl (kbr (kbr kdX1_copyRow_0)))
theorem dX1_copyRow_3 : decode cX1_copyRow 3 = .ok (.iconst 0, 1) := kdo (kbl (kbr (kbr (kbr kdX1_copyRow_0))))
theorem dX1_copyRow_4 : decode cX1_copyRow 4 = .ok (.aload_n 0, 1) := kdo (kbl (kbr (kbr (kbr (kbr kdX1_copyRow_0)))))
theorem dX1_copyRow_5 : decode cX1_copyRow 5 = .ok (.arraylength, 1) := kdo (kbl (kbr (kbr (kbr (kbr (kbr kdX1_copyRow_0))))))
theorem dX1_copyRow_6 : decode cX1_copyRow 6 = .ok (.aload_n 1, 1) := kdo (kbl (kbr (kbr (kbr (kbr (kbr (kbr kdX1_copyRow_0)))))))
theorem dX1_copyRow_7 : decode cX1_copyRow 7 = .ok (.arraylength, 1) := kdo (kbl (kbr (kbr (kbr (kbr (kbr (kbr (kbr kdX1_copyRow_0))))))))
theorem dX1_copyRow_8 : decode cX1_copyRow 8 = .ok (.invokestatic 56, 3) := kdo (kbl (kbr (kbr (kbr (kbr (kbr (kbr (kbr (kbr kdX1_copyRow_0)))))))))
theorem dX1_copyRow_11 : decode cX1_copyRow 11 = .ok (.invokestatic 62, 3) := kdo (kbl (kbr (kbr (kbr (kbr (kbr (kbr (kbr (kbr (kbr kdX1_copyRow_0))))))))))
theorem dX1_copyRow_14 : decode cX1_copyRow 14 = .ok (.return_, 1) := kdo (kbr (kbr (kbr (kbr (kbr (kbr (kbr (kbr (kbr (kbr kdX1_copyRow_0))))))))))
set_option maxRecDepth 20000 in
theorem ggX0_faultPlace_X0_fitsAmongSites : GoodIn wsX0_faultPlace wsX0_fitsAmongSites := goodIn_r _ [6, 7, 8, 9, 5, 10, 11, 12, 13, 14, 15, 16, 17, 18, 19, 20, 21, 22, 23, 24, 25, 26, 27, 28, 29, 30, 31, 32, 33, 34, 35, 36, 37, 38, 39, 40, 41, 42, 43, 44, 45, 46, 47, 48, 49, 50, 51, 52, 53, 54, 55, 56, 57, 58, 59, 60, 61, 62, 63, 64, 65, 66, 67, 68, 69, 70, 71, 72, 73, 74, 75, 76, 77, 78, 79, 80, 81, 82, 83, 84, 85, 86, 87, 88, 89, 90, 91, 92, 93, 94, 95, 96, 97, 98, 99, 100, 101, 102, 103, 104, 105, 106, 107, 108, 109, 110, 111, 112, 113, 114, 115, 116, 117] (by decide +kernel) (by decide +kernel)
set_option maxRecDepth 20000 in
theorem gX0_faultPlace_X0_fitsAmongSites : GoodIn wsX0_faultPlace (wsV RX0 19 RX0 yX0_fitsAmongSites wsX0_fitsAmongSites) := goodIn_app (goodIn_of _ (by decide +kernel)) ggX0_faultPlace_X0_fitsAmongSites
set_option maxRecDepth 20000 in
theorem ggX0_faultPlace_X0_isDigitFrom : GoodIn wsX0_faultPlace wsX0_isDigitFrom := goodIn_r _ [108, 11, 12, 13, 5, 14, 15, 109, 110, 111, 116, 117] (by decide +kernel) (by decide +kernel)
set_option maxRecDepth 20000 in
theorem gX0_faultPlace_X0_isDigitFrom : GoodIn wsX0_faultPlace (wsV RX0 23 RX0 yX0_isDigitFrom wsX0_isDigitFrom) := goodIn_app (goodIn_of _ (by decide +kernel)) ggX0_faultPlace_X0_isDigitFrom
set_option maxRecDepth 20000 in
theorem ggX0_faultPlace_X0_codeAt : GoodIn wsX0_faultPlace wsX0_codeAt := goodIn_r _ [14, 15, 116, 117] (by decide +kernel) (by decide +kernel)
set_option maxRecDepth 20000 in
theorem gX0_faultPlace_X0_codeAt : GoodIn wsX0_faultPlace (wsV RX0 27 RX0 yX0_codeAt wsX0_codeAt) := goodIn_app (goodIn_of _ (by decide +kernel)) ggX0_faultPlace_X0_codeAt
set_option maxRecDepth 20000 in
theorem ggX0_isWhole_X0_faultPlace : GoodIn wsX0_isWhole wsX0_faultPlace := goodIn_r _ [6, 1, 7, 8, 9, 5, 10, 11, 12, 13, 14, 15, 16, 17, 18, 19, 20, 21, 22, 23, 24, 25, 26, 27, 28, 29, 30, 31, 32, 33, 34, 35, 36, 37, 38, 39, 40, 41, 42, 43, 44, 45, 46, 47, 48, 49, 50, 51, 52, 53, 54, 55, 56, 57, 58, 59, 60, 61, 62, 63, 64, 65, 66, 67, 68, 69, 70, 71, 72, 73, 74, 75, 76, 77, 78, 79, 80, 81, 82, 83, 84, 85, 86, 87, 88, 89, 90, 91, 92, 93, 94, 95, 96, 97, 98, 99, 100, 101, 102, 103, 104, 105, 106, 107, 108, 109, 110, 111, 112, 113, 114, 115, 116, 117, 118, 119, 120, 121] (by decide +kernel) (by decide +kernel)
set_option maxRecDepth 20000 in
theorem gX0_isWhole_X0_faultPlace : GoodIn wsX0_isWhole (wsV RX0 31 RX0 yX0_faultPlace wsX0_faultPlace) := goodIn_app (goodIn_of _ (by decide +kernel)) ggX0_isWhole_X0_faultPlace
set_option maxRecDepth 20000 in
theorem ggX0_isWhole_X0_codeAt : GoodIn wsX0_isWhole wsX0_codeAt := goodIn_r _ [18, 19, 120, 121] (by decide +kernel) (by decide +kernel)
set_option maxRecDepth 20000 in
theorem gX0_isWhole_X0_codeAt : GoodIn wsX0_isWhole (wsV RX0 27 RX0 yX0_codeAt wsX0_codeAt) := goodIn_app (goodIn_of _ (by decide +kernel)) ggX0_isWhole_X0_codeAt
set_option maxRecDepth 20000 in
theorem ggX0_kindOf_X0_kindAt : GoodIn wsX0_kindOf wsX0_kindAt := goodIn_r _ [5, 6, 7, 8, 4, 9, 10, 11, 12, 13, 14, 15, 16, 17, 18, 19, 20, 21, 22, 23, 24, 25, 26, 27, 28, 29, 30, 31, 32, 33, 34, 35, 36, 37, 38, 39, 40, 41, 42, 43, 44, 45, 46, 47, 48, 49, 50, 51, 52, 53, 54, 55, 56, 57, 58, 59, 60, 61, 62, 63, 64, 65, 66, 67, 68, 69, 70, 71, 72, 73, 74, 75, 76, 77, 78, 79, 80, 81, 82, 83, 84, 85, 86, 87, 88, 89, 90, 91, 92, 93, 94, 95, 96, 97, 98, 99, 100, 101] (by decide +kernel) (by decide +kernel)
set_option maxRecDepth 20000 in
theorem gX0_kindOf_X0_kindAt : GoodIn wsX0_kindOf (wsV RX0 35 RX0 yX0_kindAt wsX0_kindAt) := goodIn_app (goodIn_of _ (by decide +kernel)) ggX0_kindOf_X0_kindAt
set_option maxRecDepth 20000 in
theorem ggX0_wantOf_X0_digitAt : GoodIn wsX0_wantOf wsX0_digitAt := goodIn_r _ [5, 6, 7, 8, 4, 9, 10, 11, 12] (by decide +kernel) (by decide +kernel)
set_option maxRecDepth 20000 in
theorem gX0_wantOf_X0_digitAt : GoodIn wsX0_wantOf (wsV RX0 38 RX0 yX0_digitAt wsX0_digitAt) := goodIn_app (goodIn_of _ (by decide +kernel)) ggX0_wantOf_X0_digitAt
set_option maxRecDepth 20000 in
theorem ggX0_sunTold_X0_digitAt : GoodIn wsX0_sunTold wsX0_digitAt := goodIn_r _ [6, 7, 8, 9, 5, 10, 11, 12, 13] (by decide +kernel) (by decide +kernel)
set_option maxRecDepth 20000 in
theorem gX0_sunTold_X0_digitAt : GoodIn wsX0_sunTold (wsV RX0 38 RX0 yX0_digitAt wsX0_digitAt) := goodIn_app (goodIn_of _ (by decide +kernel)) ggX0_sunTold_X0_digitAt
set_option maxRecDepth 20000 in
theorem ggX0_fitsAmongSites_X0_kindAt : GoodIn wsX0_fitsAmongSites wsX0_kindAt := goodIn_r _ [5, 6, 7, 8, 4, 9, 10, 11, 12, 13, 14, 15, 16, 17, 18, 19, 20, 21, 22, 23, 24, 25, 26, 27, 28, 29, 30, 31, 32, 33, 34, 35, 36, 37, 38, 39, 40, 41, 42, 43, 44, 45, 46, 47, 48, 49, 50, 51, 52, 53, 54, 55, 56, 57, 58, 59, 60, 61, 62, 63, 64, 65, 66, 67, 68, 69, 70, 71, 72, 73, 74, 75, 76, 77, 78, 79, 80, 81, 82, 83, 84, 85, 86, 87, 88, 89, 90, 91, 92, 93, 94, 95, 96, 97, 98, 99, 111, 112] (by decide +kernel) (by decide +kernel)
set_option maxRecDepth 20000 in
theorem gX0_fitsAmongSites_X0_kindAt : GoodIn wsX0_fitsAmongSites (wsV RX0 35 RX0 yX0_kindAt wsX0_kindAt) := goodIn_app (goodIn_of _ (by decide +kernel)) ggX0_fitsAmongSites_X0_kindAt
set_option maxRecDepth 20000 in
theorem ggX0_fitsAmongSites_X0_isDigitFrom : GoodIn wsX0_fitsAmongSites wsX0_isDigitFrom := goodIn_r _ [103, 6, 7, 8, 4, 9, 10, 104, 105, 106, 111, 112] (by decide +kernel) (by decide +kernel)
set_option maxRecDepth 20000 in
theorem gX0_fitsAmongSites_X0_isDigitFrom : GoodIn wsX0_fitsAmongSites (wsV RX0 23 RX0 yX0_isDigitFrom wsX0_isDigitFrom) := goodIn_app (goodIn_of _ (by decide +kernel)) ggX0_fitsAmongSites_X0_isDigitFrom
set_option maxRecDepth 20000 in
theorem ggX0_fitsAmongSites_X0_fitsBehindSites : GoodIn wsX0_fitsAmongSites wsX0_fitsBehindSites := goodIn_r _ [110, 6, 7, 8, 4, 9, 10, 111, 112] (by decide +kernel) (by decide +kernel)
set_option maxRecDepth 20000 in
theorem gX0_fitsAmongSites_X0_fitsBehindSites : GoodIn wsX0_fitsAmongSites (wsV RX0 41 RX0 yX0_fitsBehindSites wsX0_fitsBehindSites) := goodIn_app (goodIn_of _ (by decide +kernel)) ggX0_fitsAmongSites_X0_fitsBehindSites
set_option maxRecDepth 20000 in
theorem ggX0_fitsBehindSites_X0_codeAt : GoodIn wsX0_fitsBehindSites wsX0_codeAt := goodIn_r _ [5, 6, 7, 8] (by decide +kernel) (by decide +kernel)
set_option maxRecDepth 20000 in
theorem gX0_fitsBehindSites_X0_codeAt : GoodIn wsX0_fitsBehindSites (wsV RX0 27 RX0 yX0_codeAt wsX0_codeAt) := goodIn_app (goodIn_of _ (by decide +kernel)) ggX0_fitsBehindSites_X0_codeAt
set_option maxRecDepth 20000 in
theorem ggX0_isDigitFrom_X0_codeAt : GoodIn wsX0_isDigitFrom wsX0_codeAt := goodIn_r _ [5, 6, 10, 11] (by decide +kernel) (by decide +kernel)
set_option maxRecDepth 20000 in
theorem gX0_isDigitFrom_X0_codeAt : GoodIn wsX0_isDigitFrom (wsV RX0 27 RX0 yX0_codeAt wsX0_codeAt) := goodIn_app (goodIn_of _ (by decide +kernel)) ggX0_isDigitFrom_X0_codeAt
set_option maxRecDepth 20000 in
theorem ggX0_isDigitFrom_X2_isWithin : GoodIn wsX0_isDigitFrom wsX2_isWithin := goodIn_r _ [9] (by decide +kernel) (by decide +kernel)
set_option maxRecDepth 20000 in
theorem gX0_isDigitFrom_X2_isWithin_n45 : GoodIn wsX0_isDigitFrom (wsX2_isWithin) := ggX0_isDigitFrom_X2_isWithin
set_option maxRecDepth 20000 in
theorem ggX0_digitAt_X0_codeAt : GoodIn wsX0_digitAt wsX0_codeAt := goodIn_r _ [5, 6, 7, 8] (by decide +kernel) (by decide +kernel)
set_option maxRecDepth 20000 in
theorem gX0_digitAt_X0_codeAt : GoodIn wsX0_digitAt (wsV RX0 27 RX0 yX0_codeAt wsX0_codeAt) := goodIn_app (goodIn_of _ (by decide +kernel)) ggX0_digitAt_X0_codeAt
set_option maxRecDepth 20000 in
theorem ggX0_kindAt_X0_codeAt : GoodIn wsX0_kindAt wsX0_codeAt := goodIn_r _ [5, 6, 96, 97] (by decide +kernel) (by decide +kernel)
set_option maxRecDepth 20000 in
theorem gX0_kindAt_X0_codeAt : GoodIn wsX0_kindAt (wsV RX0 27 RX0 yX0_codeAt wsX0_codeAt) := goodIn_app (goodIn_of _ (by decide +kernel)) ggX0_kindAt_X0_codeAt
set_option maxRecDepth 20000 in
theorem ggX0_kindAt_J0_indexOf_0f7a4 : GoodIn wsX0_kindAt wsJ0_indexOf_0f7a4 := goodIn_r _ [11, 12, 13, 14, 10, 15, 16, 17, 18, 19, 20, 21, 22, 23, 24, 25, 26, 27, 28, 29, 30, 31, 32, 33, 34, 35, 36, 37, 38, 39, 40, 41, 42, 43, 44, 45, 46, 47, 48, 49, 50, 51, 52, 53, 54, 55, 56, 57, 58, 59, 60, 61, 62, 63, 64, 65, 66, 67, 68, 69, 70, 71, 72, 73, 74, 75, 76, 77, 78, 79, 80, 81, 82, 83, 84, 85, 86, 87, 88, 89, 90, 91, 92, 93, 94, 95] (by decide +kernel) (by decide +kernel)
set_option maxRecDepth 20000 in
theorem gX0_kindAt_J0_indexOf_0f7a4 : GoodIn wsX0_kindAt (wsV RX0 51 RJ0 yJ0_indexOf_0f7a4 wsJ0_indexOf_0f7a4) := goodIn_app (goodIn_of _ (by decide +kernel)) ggX0_kindAt_J0_indexOf_0f7a4
set_option maxRecDepth 20000 in
theorem ggX1_copy_X1_copyRow : GoodIn wsX1_copy wsX1_copyRow := goodIn_r _ [17, 18, 19, 20, 21, 22, 23, 24, 25] (by decide +kernel) (by decide +kernel)
set_option maxRecDepth 20000 in
theorem gX1_copy_X1_copyRow : GoodIn wsX1_copy (va_wsS RX1 52 yX1_copyRow wsX1_copyRow) := goodIn_app (goodIn_of _ (by decide +kernel)) ggX1_copy_X1_copyRow
