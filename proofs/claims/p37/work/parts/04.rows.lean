theorem dJ9_max_7cf53_0 : decode cJ9_max_7cf53 0 = .ok (.iload_n 0, 1) := by decide +kernel
theorem dJ9_max_7cf53_1 : decode cJ9_max_7cf53 1 = .ok (.iload_n 1, 1) := by decide +kernel
theorem dJ9_max_7cf53_2 : decode cJ9_max_7cf53 2 = .ok (.if_icmp .lt 7, 3) := by decide +kernel
theorem dJ9_max_7cf53_5 : decode cJ9_max_7cf53 5 = .ok (.iload_n 0, 1) := by decide +kernel
theorem dJ9_max_7cf53_6 : decode cJ9_max_7cf53 6 = .ok (.goto 4, 3) := by decide +kernel
theorem dJ9_max_7cf53_9 : decode cJ9_max_7cf53 9 = .ok (.iload_n 1, 1) := by decide +kernel
theorem dJ9_max_7cf53_10 : decode cJ9_max_7cf53 10 = .ok (.ireturn, 1) := by decide +kernel
theorem dJ9_min_7cf53_0 : decode cJ9_min_7cf53 0 = .ok (.iload_n 0, 1) := by decide +kernel
theorem dJ9_min_7cf53_1 : decode cJ9_min_7cf53 1 = .ok (.iload_n 1, 1) := by decide +kernel
theorem dJ9_min_7cf53_2 : decode cJ9_min_7cf53 2 = .ok (.if_icmp .gt 7, 3) := by decide +kernel
theorem dJ9_min_7cf53_5 : decode cJ9_min_7cf53 5 = .ok (.iload_n 0, 1) := by decide +kernel
theorem dJ9_min_7cf53_6 : decode cJ9_min_7cf53 6 = .ok (.goto 4, 3) := by decide +kernel
theorem dJ9_min_7cf53_9 : decode cJ9_min_7cf53 9 = .ok (.iload_n 1, 1) := by decide +kernel
theorem dJ9_min_7cf53_10 : decode cJ9_min_7cf53 10 = .ok (.ireturn, 1) := by decide +kernel
theorem dJxa1e45_init_da8c8_0 : decode cJxa1e45_init_da8c8 0 = .ok (.aload_n 0, 1) := by decide +kernel
theorem dJxa1e45_init_da8c8_1 : decode cJxa1e45_init_da8c8 1 = .ok (.invokespecial 1, 3) := by decide +kernel
theorem dJxa1e45_init_da8c8_4 : decode cJxa1e45_init_da8c8 4 = .ok (.return_, 1) := by decide +kernel
theorem dJxc12de_init_da8c8_0 : decode cJxc12de_init_da8c8 0 = .ok (.aload_n 0, 1) := by decide +kernel
theorem dJxc12de_init_da8c8_1 : decode cJxc12de_init_da8c8 1 = .ok (.invokespecial 1, 3) := by decide +kernel
theorem dJxc12de_init_da8c8_4 : decode cJxc12de_init_da8c8 4 = .ok (.aload_n 0, 1) := by decide +kernel
theorem dJxc12de_init_da8c8_5 : decode cJxc12de_init_da8c8 5 = .ok (.iconst 0, 1) := by decide +kernel
theorem dJxc12de_init_da8c8_6 : decode cJxc12de_init_da8c8 6 = .ok (.putfield 7, 3) := by decide +kernel
theorem dJxc12de_init_da8c8_9 : decode cJxc12de_init_da8c8 9 = .ok (.return_, 1) := by decide +kernel
theorem dJx4a65c_init_da8c8_0 : decode cJx4a65c_init_da8c8 0 = .ok (.aload_n 0, 1) := by decide +kernel
theorem dJx4a65c_init_da8c8_1 : decode cJx4a65c_init_da8c8 1 = .ok (.invokespecial 1, 3) := by decide +kernel
theorem dJx4a65c_init_da8c8_4 : decode cJx4a65c_init_da8c8 4 = .ok (.aload_n 0, 1) := by decide +kernel
theorem dJx4a65c_init_da8c8_5 : decode cJx4a65c_init_da8c8 5 = .ok (.getstatic 39, 3) := by decide +kernel
theorem dJx4a65c_init_da8c8_8 : decode cJx4a65c_init_da8c8 8 = .ok (.putfield 9, 3) := by decide +kernel
theorem dJx4a65c_init_da8c8_11 : decode cJx4a65c_init_da8c8 11 = .ok (.return_, 1) := by decide +kernel
theorem dJx4a65c_grow_92f84_0 : decode cJx4a65c_grow_92f84 0 = .ok (.aload_n 0, 1) := by decide +kernel
theorem dJx4a65c_grow_92f84_1 : decode cJx4a65c_grow_92f84 1 = .ok (.getfield 9, 3) := by decide +kernel
theorem dJx4a65c_grow_92f84_4 : decode cJx4a65c_grow_92f84 4 = .ok (.arraylength, 1) := by decide +kernel
theorem dJx4a65c_grow_92f84_5 : decode cJx4a65c_grow_92f84 5 = .ok (.istore_n 2, 1) := by decide +kernel
theorem dJx4a65c_grow_92f84_6 : decode cJx4a65c_grow_92f84 6 = .ok (.iload_n 2, 1) := by decide +kernel
theorem dJx4a65c_grow_92f84_7 : decode cJx4a65c_grow_92f84 7 = .ok (.ifCond .gt 13, 3) := by decide +kernel
theorem dJx4a65c_grow_92f84_10 : decode cJx4a65c_grow_92f84 10 = .ok (.aload_n 0, 1) := by decide +kernel
theorem dJx4a65c_grow_92f84_11 : decode cJx4a65c_grow_92f84 11 = .ok (.getfield 9, 3) := by decide +kernel
theorem dJx4a65c_grow_92f84_14 : decode cJx4a65c_grow_92f84 14 = .ok (.getstatic 39, 3) := by decide +kernel
theorem dJx4a65c_grow_92f84_17 : decode cJx4a65c_grow_92f84 17 = .ok (.if_acmp .eq 28, 3) := by decide +kernel
theorem dJx4a65c_grow_92f84_20 : decode cJx4a65c_grow_92f84 20 = .ok (.iload_n 2, 1) := by decide +kernel
theorem dJx4a65c_grow_92f84_21 : decode cJx4a65c_grow_92f84 21 = .ok (.iload_n 1, 1) := by decide +kernel
theorem dJx4a65c_grow_92f84_22 : decode cJx4a65c_grow_92f84 22 = .ok (.iload_n 2, 1) := by decide +kernel
theorem dJx4a65c_grow_92f84_23 : decode cJx4a65c_grow_92f84 23 = .ok (.isub, 1) := by decide +kernel
theorem dJx4a65c_grow_92f84_24 : decode cJx4a65c_grow_92f84 24 = .ok (.iload_n 2, 1) := by decide +kernel
theorem dJx4a65c_grow_92f84_25 : decode cJx4a65c_grow_92f84 25 = .ok (.iconst 1, 1) := by decide +kernel
theorem dJx4a65c_grow_92f84_26 : decode cJx4a65c_grow_92f84 26 = .ok (.ishr, 1) := by decide +kernel
theorem dJx4a65c_grow_92f84_27 : decode cJx4a65c_grow_92f84 27 = .ok (.invokestatic 73, 3) := by decide +kernel
theorem dJx4a65c_grow_92f84_30 : decode cJx4a65c_grow_92f84 30 = .ok (.istore_n 3, 1) := by decide +kernel
theorem dJx4a65c_grow_92f84_31 : decode cJx4a65c_grow_92f84 31 = .ok (.aload_n 0, 1) := by decide +kernel
theorem dJx4a65c_grow_92f84_32 : decode cJx4a65c_grow_92f84 32 = .ok (.aload_n 0, 1) := by decide +kernel
theorem dJx4a65c_grow_92f84_33 : decode cJx4a65c_grow_92f84 33 = .ok (.getfield 9, 3) := by decide +kernel
theorem dJx4a65c_grow_92f84_36 : decode cJx4a65c_grow_92f84 36 = .ok (.iload_n 3, 1) := by decide +kernel
theorem dJx4a65c_grow_92f84_37 : decode cJx4a65c_grow_92f84 37 = .ok (.invokestatic 66, 3) := by decide +kernel
theorem dJx4a65c_grow_92f84_40 : decode cJx4a65c_grow_92f84 40 = .ok (.dup_x1, 1) := by decide +kernel
theorem dJx4a65c_grow_92f84_41 : decode cJx4a65c_grow_92f84 41 = .ok (.putfield 9, 3) := by decide +kernel
theorem dJx4a65c_grow_92f84_44 : decode cJx4a65c_grow_92f84 44 = .ok (.areturn, 1) := by decide +kernel
theorem dJx4a65c_grow_92f84_45 : decode cJx4a65c_grow_92f84 45 = .ok (.aload_n 0, 1) := by decide +kernel
theorem dJx4a65c_grow_92f84_46 : decode cJx4a65c_grow_92f84 46 = .ok (.bipush 10, 2) := by decide +kernel
theorem dJx4a65c_grow_92f84_48 : decode cJx4a65c_grow_92f84 48 = .ok (.iload_n 1, 1) := by decide +kernel
theorem dJx4a65c_grow_92f84_49 : decode cJx4a65c_grow_92f84 49 = .ok (.invokestatic 79, 3) := by decide +kernel
theorem dJx4a65c_grow_92f84_52 : decode cJx4a65c_grow_92f84 52 = .ok (.anewarray 7, 3) := by decide +kernel
theorem dJx4a65c_grow_92f84_55 : decode cJx4a65c_grow_92f84 55 = .ok (.dup_x1, 1) := by decide +kernel
theorem dJx4a65c_grow_92f84_56 : decode cJx4a65c_grow_92f84 56 = .ok (.putfield 9, 3) := by decide +kernel
theorem dJx4a65c_grow_92f84_59 : decode cJx4a65c_grow_92f84 59 = .ok (.areturn, 1) := by decide +kernel
theorem dJx4a65c_grow_d5877_0 : decode cJx4a65c_grow_d5877 0 = .ok (.aload_n 0, 1) := by decide +kernel
theorem dJx4a65c_grow_d5877_1 : decode cJx4a65c_grow_d5877 1 = .ok (.aload_n 0, 1) := by decide +kernel
theorem dJx4a65c_grow_d5877_2 : decode cJx4a65c_grow_d5877 2 = .ok (.getfield 48, 3) := by decide +kernel
theorem dJx4a65c_grow_d5877_5 : decode cJx4a65c_grow_d5877 5 = .ok (.iconst 1, 1) := by decide +kernel
theorem dJx4a65c_grow_d5877_6 : decode cJx4a65c_grow_d5877 6 = .ok (.iadd, 1) := by decide +kernel
theorem dJx4a65c_grow_d5877_7 : decode cJx4a65c_grow_d5877 7 = .ok (.invokevirtual 69, 3) := by decide +kernel
theorem dJx4a65c_grow_d5877_10 : decode cJx4a65c_grow_d5877 10 = .ok (.areturn, 1) := by decide +kernel
theorem dJx4a65c_size_8abf5_0 : decode cJx4a65c_size_8abf5 0 = .ok (.aload_n 0, 1) := by decide +kernel
theorem dJx4a65c_size_8abf5_1 : decode cJx4a65c_size_8abf5 1 = .ok (.getfield 48, 3) := by decide +kernel
theorem dJx4a65c_size_8abf5_4 : decode cJx4a65c_size_8abf5 4 = .ok (.ireturn, 1) := by decide +kernel
theorem dJx4a65c_elementData_915e3_0 : decode cJx4a65c_elementData_915e3 0 = .ok (.aload_n 0, 1) := by decide +kernel
theorem dJx4a65c_elementData_915e3_1 : decode cJx4a65c_elementData_915e3 1 = .ok (.getfield 9, 3) := by decide +kernel
theorem dJx4a65c_elementData_915e3_4 : decode cJx4a65c_elementData_915e3 4 = .ok (.iload_n 1, 1) := by decide +kernel
theorem dJx4a65c_elementData_915e3_5 : decode cJx4a65c_elementData_915e3 5 = .ok (.aaload, 1) := by decide +kernel
theorem dJx4a65c_elementData_915e3_6 : decode cJx4a65c_elementData_915e3 6 = .ok (.areturn, 1) := by decide +kernel
theorem dJx4a65c_get_915e3_0 : decode cJx4a65c_get_915e3 0 = .ok (.iload_n 1, 1) := by decide +kernel
theorem dJx4a65c_get_915e3_1 : decode cJx4a65c_get_915e3 1 = .ok (.aload_n 0, 1) := by decide +kernel
theorem dJx4a65c_get_915e3_2 : decode cJx4a65c_get_915e3 2 = .ok (.getfield 48, 3) := by decide +kernel
theorem dJx4a65c_get_915e3_5 : decode cJx4a65c_get_915e3 5 = .ok (.invokestatic 118, 3) := by decide +kernel
theorem dJx4a65c_get_915e3_8 : decode cJx4a65c_get_915e3 8 = .ok (.pop, 1) := by decide +kernel
theorem dJx4a65c_get_915e3_9 : decode cJx4a65c_get_915e3 9 = .ok (.aload_n 0, 1) := by decide +kernel
theorem dJx4a65c_get_915e3_10 : decode cJx4a65c_get_915e3 10 = .ok (.iload_n 1, 1) := by decide +kernel
theorem dJx4a65c_get_915e3_11 : decode cJx4a65c_get_915e3 11 = .ok (.invokevirtual 123, 3) := by decide +kernel
theorem dJx4a65c_get_915e3_14 : decode cJx4a65c_get_915e3 14 = .ok (.areturn, 1) := by decide +kernel
theorem dJx4a65c_set_bcc79_0 : decode cJx4a65c_set_bcc79 0 = .ok (.iload_n 1, 1) := by decide +kernel
theorem dJx4a65c_set_bcc79_1 : decode cJx4a65c_set_bcc79 1 = .ok (.aload_n 0, 1) := by decide +kernel
theorem dJx4a65c_set_bcc79_2 : decode cJx4a65c_set_bcc79 2 = .ok (.getfield 48, 3) := by decide +kernel
theorem dJx4a65c_set_bcc79_5 : decode cJx4a65c_set_bcc79 5 = .ok (.invokestatic 118, 3) := by decide +kernel
theorem dJx4a65c_set_bcc79_8 : decode cJx4a65c_set_bcc79 8 = .ok (.pop, 1) := by decide +kernel
theorem dJx4a65c_set_bcc79_9 : decode cJx4a65c_set_bcc79 9 = .ok (.aload_n 0, 1) := by decide +kernel
theorem dJx4a65c_set_bcc79_10 : decode cJx4a65c_set_bcc79 10 = .ok (.iload_n 1, 1) := by decide +kernel
theorem dJx4a65c_set_bcc79_11 : decode cJx4a65c_set_bcc79 11 = .ok (.invokevirtual 123, 3) := by decide +kernel
theorem dJx4a65c_set_bcc79_14 : decode cJx4a65c_set_bcc79 14 = .ok (.astore_n 3, 1) := by decide +kernel
theorem dJx4a65c_set_bcc79_15 : decode cJx4a65c_set_bcc79 15 = .ok (.aload_n 0, 1) := by decide +kernel
theorem dJx4a65c_set_bcc79_16 : decode cJx4a65c_set_bcc79 16 = .ok (.getfield 9, 3) := by decide +kernel
theorem dJx4a65c_set_bcc79_19 : decode cJx4a65c_set_bcc79 19 = .ok (.iload_n 1, 1) := by decide +kernel
theorem dJx4a65c_set_bcc79_20 : decode cJx4a65c_set_bcc79 20 = .ok (.aload_n 2, 1) := by decide +kernel
theorem dJx4a65c_set_bcc79_21 : decode cJx4a65c_set_bcc79 21 = .ok (.aastore, 1) := by decide +kernel
theorem dJx4a65c_set_bcc79_22 : decode cJx4a65c_set_bcc79 22 = .ok (.aload_n 3, 1) := by decide +kernel
theorem dJx4a65c_set_bcc79_23 : decode cJx4a65c_set_bcc79 23 = .ok (.areturn, 1) := by decide +kernel
theorem dJx4a65c_add_72be8_0 : decode cJx4a65c_add_72be8 0 = .ok (.iload_n 3, 1) := by decide +kernel
theorem dJx4a65c_add_72be8_1 : decode cJx4a65c_add_72be8 1 = .ok (.aload_n 2, 1) := by decide +kernel
theorem dJx4a65c_add_72be8_2 : decode cJx4a65c_add_72be8 2 = .ok (.arraylength, 1) := by decide +kernel
theorem dJx4a65c_add_72be8_3 : decode cJx4a65c_add_72be8 3 = .ok (.if_icmp .ne 8, 3) := by decide +kernel
theorem dJx4a65c_add_72be8_6 : decode cJx4a65c_add_72be8 6 = .ok (.aload_n 0, 1) := by decide +kernel
theorem dJx4a65c_add_72be8_7 : decode cJx4a65c_add_72be8 7 = .ok (.invokevirtual 129, 3) := by decide +kernel
theorem dJx4a65c_add_72be8_10 : decode cJx4a65c_add_72be8 10 = .ok (.astore_n 2, 1) := by decide +kernel
theorem dJx4a65c_add_72be8_11 : decode cJx4a65c_add_72be8 11 = .ok (.aload_n 2, 1) := by decide +kernel
theorem dJx4a65c_add_72be8_12 : decode cJx4a65c_add_72be8 12 = .ok (.iload_n 3, 1) := by decide +kernel
theorem dJx4a65c_add_72be8_13 : decode cJx4a65c_add_72be8 13 = .ok (.aload_n 1, 1) := by decide +kernel
theorem dJx4a65c_add_72be8_14 : decode cJx4a65c_add_72be8 14 = .ok (.aastore, 1) := by decide +kernel
theorem dJx4a65c_add_72be8_15 : decode cJx4a65c_add_72be8 15 = .ok (.aload_n 0, 1) := by decide +kernel
theorem dJx4a65c_add_72be8_16 : decode cJx4a65c_add_72be8 16 = .ok (.iload_n 3, 1) := by decide +kernel
theorem dJx4a65c_add_72be8_17 : decode cJx4a65c_add_72be8 17 = .ok (.iconst 1, 1) := by decide +kernel
theorem dJx4a65c_add_72be8_18 : decode cJx4a65c_add_72be8 18 = .ok (.iadd, 1) := by decide +kernel
theorem dJx4a65c_add_72be8_19 : decode cJx4a65c_add_72be8 19 = .ok (.putfield 48, 3) := by decide +kernel
theorem dJx4a65c_add_72be8_22 : decode cJx4a65c_add_72be8 22 = .ok (.return_, 1) := by decide +kernel
theorem dJx4a65c_add_9ea2d_0 : decode cJx4a65c_add_9ea2d 0 = .ok (.aload_n 0, 1) := by decide +kernel
theorem dJx4a65c_add_9ea2d_1 : decode cJx4a65c_add_9ea2d 1 = .ok (.dup, 1) := by decide +kernel
theorem dJx4a65c_add_9ea2d_2 : decode cJx4a65c_add_9ea2d 2 = .ok (.getfield 63, 3) := by decide +kernel
theorem dJx4a65c_add_9ea2d_5 : decode cJx4a65c_add_9ea2d 5 = .ok (.iconst 1, 1) := by decide +kernel
theorem dJx4a65c_add_9ea2d_6 : decode cJx4a65c_add_9ea2d 6 = .ok (.iadd, 1) := by decide +kernel
theorem dJx4a65c_add_9ea2d_7 : decode cJx4a65c_add_9ea2d 7 = .ok (.putfield 63, 3) := by decide +kernel
theorem dJx4a65c_add_9ea2d_10 : decode cJx4a65c_add_9ea2d 10 = .ok (.aload_n 0, 1) := by decide +kernel
theorem dJx4a65c_add_9ea2d_11 : decode cJx4a65c_add_9ea2d 11 = .ok (.aload_n 1, 1) := by decide +kernel
theorem dJx4a65c_add_9ea2d_12 : decode cJx4a65c_add_9ea2d 12 = .ok (.aload_n 0, 1) := by decide +kernel
theorem dJx4a65c_add_9ea2d_13 : decode cJx4a65c_add_9ea2d 13 = .ok (.getfield 9, 3) := by decide +kernel
theorem dJx4a65c_add_9ea2d_16 : decode cJx4a65c_add_9ea2d 16 = .ok (.aload_n 0, 1) := by decide +kernel
theorem dJx4a65c_add_9ea2d_17 : decode cJx4a65c_add_9ea2d 17 = .ok (.getfield 48, 3) := by decide +kernel
theorem dJx4a65c_add_9ea2d_20 : decode cJx4a65c_add_9ea2d 20 = .ok (.invokevirtual 131, 3) := by decide +kernel
theorem dJx4a65c_add_9ea2d_23 : decode cJx4a65c_add_9ea2d 23 = .ok (.iconst 1, 1) := by decide +kernel
theorem dJx4a65c_add_9ea2d_24 : decode cJx4a65c_add_9ea2d 24 = .ok (.ireturn, 1) := by decide +kernel
theorem dJ7_copyOf_1904c_0 : decode cJ7_copyOf_1904c 0 = .ok (.aload_n 0, 1) := by decide +kernel
theorem dJ7_copyOf_1904c_1 : decode cJ7_copyOf_1904c 1 = .ok (.iload_n 1, 1) := by decide +kernel
theorem dJ7_copyOf_1904c_2 : decode cJ7_copyOf_1904c 2 = .ok (.aload_n 0, 1) := by decide +kernel
theorem dJ7_copyOf_1904c_3 : decode cJ7_copyOf_1904c 3 = .ok (.invokevirtual 86, 3) := by decide +kernel
theorem dJ7_copyOf_1904c_6 : decode cJ7_copyOf_1904c 6 = .ok (.invokestatic 300, 3) := by decide +kernel
theorem dJ7_copyOf_1904c_9 : decode cJ7_copyOf_1904c 9 = .ok (.areturn, 1) := by decide +kernel
theorem dJ7_copyOf_6403c_0 : decode cJ7_copyOf_6403c 0 = .ok (.aload_n 2, 1) := by decide +kernel
theorem dJ7_copyOf_6403c_1 : decode cJ7_copyOf_6403c 1 = .ok (.ldc 110, 2) := by decide +kernel
theorem dJ7_copyOf_6403c_3 : decode cJ7_copyOf_6403c 3 = .ok (.if_acmp .ne 10, 3) := by decide +kernel
theorem dJ7_copyOf_6403c_6 : decode cJ7_copyOf_6403c 6 = .ok (.iload_n 1, 1) := by decide +kernel
theorem dJ7_copyOf_6403c_7 : decode cJ7_copyOf_6403c 7 = .ok (.anewarray 2, 3) := by decide +kernel
theorem dJ7_copyOf_6403c_10 : decode cJ7_copyOf_6403c 10 = .ok (.goto 14, 3) := by decide +kernel
theorem dJ7_copyOf_6403c_13 : decode cJ7_copyOf_6403c 13 = .ok (.aload_n 2, 1) := by decide +kernel
theorem dJ7_copyOf_6403c_14 : decode cJ7_copyOf_6403c 14 = .ok (.invokevirtual 90, 3) := by decide +kernel
theorem dJ7_copyOf_6403c_17 : decode cJ7_copyOf_6403c 17 = .ok (.iload_n 1, 1) := by decide +kernel
theorem dJ7_copyOf_6403c_18 : decode cJ7_copyOf_6403c 18 = .ok (.invokestatic 95, 3) := by decide +kernel
theorem dJ7_copyOf_6403c_21 : decode cJ7_copyOf_6403c 21 = .ok (.checkcast 110, 3) := by decide +kernel
theorem dJ7_copyOf_6403c_24 : decode cJ7_copyOf_6403c 24 = .ok (.astore_n 3, 1) := by decide +kernel
theorem dJ7_copyOf_6403c_25 : decode cJ7_copyOf_6403c 25 = .ok (.aload_n 0, 1) := by decide +kernel
theorem dJ7_copyOf_6403c_26 : decode cJ7_copyOf_6403c 26 = .ok (.iconst 0, 1) := by decide +kernel
theorem dJ7_copyOf_6403c_27 : decode cJ7_copyOf_6403c 27 = .ok (.aload_n 3, 1) := by decide +kernel
theorem dJ7_copyOf_6403c_28 : decode cJ7_copyOf_6403c 28 = .ok (.iconst 0, 1) := by decide +kernel
theorem dJ7_copyOf_6403c_29 : decode cJ7_copyOf_6403c 29 = .ok (.aload_n 0, 1) := by decide +kernel
theorem dJ7_copyOf_6403c_30 : decode cJ7_copyOf_6403c 30 = .ok (.arraylength, 1) := by decide +kernel
theorem dJ7_copyOf_6403c_31 : decode cJ7_copyOf_6403c 31 = .ok (.iload_n 1, 1) := by decide +kernel
theorem dJ7_copyOf_6403c_32 : decode cJ7_copyOf_6403c 32 = .ok (.invokestatic 304, 3) := by decide +kernel
theorem dJ7_copyOf_6403c_35 : decode cJ7_copyOf_6403c 35 = .ok (.invokestatic 150, 3) := by decide +kernel
theorem dJ7_copyOf_6403c_38 : decode cJ7_copyOf_6403c 38 = .ok (.aload_n 3, 1) := by decide +kernel
theorem dJ7_copyOf_6403c_39 : decode cJ7_copyOf_6403c 39 = .ok (.areturn, 1) := by decide +kernel
theorem dJ15_checkIndex_7cf53_0 : decode cJ15_checkIndex_7cf53 0 = .ok (.iload_n 0, 1) := by decide +kernel
theorem dJ15_checkIndex_7cf53_1 : decode cJ15_checkIndex_7cf53 1 = .ok (.iload_n 1, 1) := by decide +kernel
theorem dJ15_checkIndex_7cf53_2 : decode cJ15_checkIndex_7cf53 2 = .ok (.aconst_null, 1) := by decide +kernel
theorem dJ15_checkIndex_7cf53_3 : decode cJ15_checkIndex_7cf53 3 = .ok (.invokestatic 105, 3) := by decide +kernel
theorem dJ15_checkIndex_7cf53_6 : decode cJ15_checkIndex_7cf53 6 = .ok (.ireturn, 1) := by decide +kernel
theorem dJ8_newLength_cabcc_0 : decode cJ8_newLength_cabcc 0 = .ok (.iload_n 0, 1) := by decide +kernel
theorem dJ8_newLength_cabcc_1 : decode cJ8_newLength_cabcc 1 = .ok (.iload_n 1, 1) := by decide +kernel
theorem dJ8_newLength_cabcc_2 : decode cJ8_newLength_cabcc 2 = .ok (.iload_n 2, 1) := by decide +kernel
theorem dJ8_newLength_cabcc_3 : decode cJ8_newLength_cabcc 3 = .ok (.invokestatic 194, 3) := by decide +kernel
theorem dJ8_newLength_cabcc_6 : decode cJ8_newLength_cabcc 6 = .ok (.iadd, 1) := by decide +kernel
theorem dJ8_newLength_cabcc_7 : decode cJ8_newLength_cabcc 7 = .ok (.istore_n 3, 1) := by decide +kernel
theorem dJ8_newLength_cabcc_8 : decode cJ8_newLength_cabcc 8 = .ok (.iconst 0, 1) := by decide +kernel
theorem dJ8_newLength_cabcc_9 : decode cJ8_newLength_cabcc 9 = .ok (.iload_n 3, 1) := by decide +kernel
theorem dJ8_newLength_cabcc_10 : decode cJ8_newLength_cabcc 10 = .ok (.if_icmp .ge 11, 3) := by decide +kernel
theorem dJ8_newLength_cabcc_13 : decode cJ8_newLength_cabcc 13 = .ok (.iload_n 3, 1) := by decide +kernel
theorem dJ8_newLength_cabcc_14 : decode cJ8_newLength_cabcc 14 = .ok (.ldc 200, 2) := by decide +kernel
theorem dJ8_newLength_cabcc_16 : decode cJ8_newLength_cabcc 16 = .ok (.if_icmp .gt 5, 3) := by decide +kernel
theorem dJ8_newLength_cabcc_19 : decode cJ8_newLength_cabcc 19 = .ok (.iload_n 3, 1) := by decide +kernel
theorem dJ8_newLength_cabcc_20 : decode cJ8_newLength_cabcc 20 = .ok (.ireturn, 1) := by decide +kernel
theorem dJ8_newLength_cabcc_21 : decode cJ8_newLength_cabcc 21 = .ok (.iload_n 0, 1) := by decide +kernel
theorem dJ8_newLength_cabcc_22 : decode cJ8_newLength_cabcc 22 = .ok (.iload_n 1, 1) := by decide +kernel
theorem dJ8_newLength_cabcc_23 : decode cJ8_newLength_cabcc 23 = .ok (.invokestatic 201, 3) := by decide +kernel
theorem dJ8_newLength_cabcc_26 : decode cJ8_newLength_cabcc 26 = .ok (.ireturn, 1) := by decide +kernel
theorem dJ8_hugeLength_7cf53_0 : decode cJ8_hugeLength_7cf53 0 = .ok (.iload_n 0, 1) := by decide +kernel
theorem dJ8_hugeLength_7cf53_1 : decode cJ8_hugeLength_7cf53 1 = .ok (.iload_n 1, 1) := by decide +kernel
theorem dJ8_hugeLength_7cf53_2 : decode cJ8_hugeLength_7cf53 2 = .ok (.iadd, 1) := by decide +kernel
theorem dJ8_hugeLength_7cf53_3 : decode cJ8_hugeLength_7cf53 3 = .ok (.istore_n 2, 1) := by decide +kernel
theorem dJ8_hugeLength_7cf53_4 : decode cJ8_hugeLength_7cf53 4 = .ok (.iload_n 2, 1) := by decide +kernel
theorem dJ8_hugeLength_7cf53_5 : decode cJ8_hugeLength_7cf53 5 = .ok (.ifCond .ge 44, 3) := by decide +kernel
theorem dJ8_hugeLength_7cf53_8 : decode cJ8_hugeLength_7cf53 8 = .ok (.new 204, 3) := by decide +kernel
theorem dJ8_hugeLength_7cf53_11 : decode cJ8_hugeLength_7cf53 11 = .ok (.dup, 1) := by decide +kernel
theorem dJ8_hugeLength_7cf53_12 : decode cJ8_hugeLength_7cf53 12 = .ok (.new 89, 3) := by decide +kernel
theorem dJ8_hugeLength_7cf53_15 : decode cJ8_hugeLength_7cf53 15 = .ok (.dup, 1) := by decide +kernel
theorem dJ8_hugeLength_7cf53_16 : decode cJ8_hugeLength_7cf53 16 = .ok (.invokespecial 91, 3) := by decide +kernel
theorem dJ8_hugeLength_7cf53_19 : decode cJ8_hugeLength_7cf53 19 = .ok (.ldc 206, 2) := by decide +kernel
theorem dJ8_hugeLength_7cf53_21 : decode cJ8_hugeLength_7cf53 21 = .ok (.invokevirtual 94, 3) := by decide +kernel
theorem dJ8_hugeLength_7cf53_24 : decode cJ8_hugeLength_7cf53 24 = .ok (.iload_n 0, 1) := by decide +kernel
theorem dJ8_hugeLength_7cf53_25 : decode cJ8_hugeLength_7cf53 25 = .ok (.invokevirtual 98, 3) := by decide +kernel
theorem dJ8_hugeLength_7cf53_28 : decode cJ8_hugeLength_7cf53 28 = .ok (.ldc 208, 2) := by decide +kernel
theorem dJ8_hugeLength_7cf53_30 : decode cJ8_hugeLength_7cf53 30 = .ok (.invokevirtual 94, 3) := by decide +kernel
theorem dJ8_hugeLength_7cf53_33 : decode cJ8_hugeLength_7cf53 33 = .ok (.iload_n 1, 1) := by decide +kernel
theorem dJ8_hugeLength_7cf53_34 : decode cJ8_hugeLength_7cf53 34 = .ok (.invokevirtual 98, 3) := by decide +kernel
theorem dJ8_hugeLength_7cf53_37 : decode cJ8_hugeLength_7cf53 37 = .ok (.ldc 210, 2) := by decide +kernel
theorem dJ8_hugeLength_7cf53_39 : decode cJ8_hugeLength_7cf53 39 = .ok (.invokevirtual 94, 3) := by decide +kernel
theorem dJ8_hugeLength_7cf53_42 : decode cJ8_hugeLength_7cf53 42 = .ok (.invokevirtual 101, 3) := by decide +kernel
theorem dJ8_hugeLength_7cf53_45 : decode cJ8_hugeLength_7cf53 45 = .ok (.invokespecial 212, 3) := by decide +kernel
theorem dJ8_hugeLength_7cf53_48 : decode cJ8_hugeLength_7cf53 48 = .ok (.athrow, 1) := by decide +kernel
theorem dJ8_hugeLength_7cf53_49 : decode cJ8_hugeLength_7cf53 49 = .ok (.iload_n 2, 1) := by decide +kernel
theorem dJ8_hugeLength_7cf53_50 : decode cJ8_hugeLength_7cf53 50 = .ok (.ldc 200, 2) := by decide +kernel
theorem dJ8_hugeLength_7cf53_52 : decode cJ8_hugeLength_7cf53 52 = .ok (.if_icmp .gt 6, 3) := by decide +kernel
theorem dJ8_hugeLength_7cf53_55 : decode cJ8_hugeLength_7cf53 55 = .ok (.ldc 200, 2) := by decide +kernel
theorem dJ8_hugeLength_7cf53_57 : decode cJ8_hugeLength_7cf53 57 = .ok (.ireturn, 1) := by decide +kernel
theorem dJ8_hugeLength_7cf53_58 : decode cJ8_hugeLength_7cf53 58 = .ok (.iload_n 2, 1) := by decide +kernel
theorem dJ8_hugeLength_7cf53_59 : decode cJ8_hugeLength_7cf53 59 = .ok (.ireturn, 1) := by decide +kernel
theorem dJ3_checkIndex_8e157_0 : decode cJ3_checkIndex_8e157 0 = .ok (.iload_n 0, 1) := by decide +kernel
theorem dJ3_checkIndex_8e157_1 : decode cJ3_checkIndex_8e157 1 = .ok (.ifCond .lt 8, 3) := by decide +kernel
theorem dJ3_checkIndex_8e157_4 : decode cJ3_checkIndex_8e157 4 = .ok (.iload_n 0, 1) := by decide +kernel
theorem dJ3_checkIndex_8e157_5 : decode cJ3_checkIndex_8e157 5 = .ok (.iload_n 1, 1) := by decide +kernel
theorem dJ3_checkIndex_8e157_6 : decode cJ3_checkIndex_8e157 6 = .ok (.if_icmp .lt 10, 3) := by decide +kernel
theorem dJ3_checkIndex_8e157_9 : decode cJ3_checkIndex_8e157 9 = .ok (.aload_n 2, 1) := by decide +kernel
theorem dJ3_checkIndex_8e157_10 : decode cJ3_checkIndex_8e157 10 = .ok (.iload_n 0, 1) := by decide +kernel
theorem dJ3_checkIndex_8e157_11 : decode cJ3_checkIndex_8e157 11 = .ok (.iload_n 1, 1) := by decide +kernel
theorem dJ3_checkIndex_8e157_12 : decode cJ3_checkIndex_8e157 12 = .ok (.invokestatic 95, 3) := by decide +kernel
theorem dJ3_checkIndex_8e157_15 : decode cJ3_checkIndex_8e157 15 = .ok (.athrow, 1) := by decide +kernel
theorem dJ3_checkIndex_8e157_16 : decode cJ3_checkIndex_8e157 16 = .ok (.iload_n 0, 1) := by decide +kernel
theorem dJ3_checkIndex_8e157_17 : decode cJ3_checkIndex_8e157 17 = .ok (.ireturn, 1) := by decide +kernel
theorem dX0_init_0 : decode cX0_init 0 = .ok (.aload_n 0, 1) := by decide +kernel
theorem dX0_init_1 : decode cX0_init 1 = .ok (.iload_n 2, 1) := by decide +kernel
theorem dX0_init_2 : decode cX0_init 2 = .ok (.iload_n 3, 1) := by decide +kernel
theorem dX0_init_3 : decode cX0_init 3 = .ok (.invokespecial 3, 3) := by decide +kernel
theorem dX0_init_6 : decode cX0_init 6 = .ok (.aload_n 0, 1) := by decide +kernel
theorem dX0_init_7 : decode cX0_init 7 = .ok (.iload_n 1, 1) := by decide +kernel
theorem dX0_init_8 : decode cX0_init 8 = .ok (.putfield 9, 3) := by decide +kernel
theorem dX0_init_11 : decode cX0_init 11 = .ok (.aload_n 0, 1) := by decide +kernel
theorem dX0_init_12 : decode cX0_init 12 = .ok (.iload 4, 2) := by decide +kernel
theorem dX0_init_14 : decode cX0_init 14 = .ok (.putfield 15, 3) := by decide +kernel
theorem dX0_init_17 : decode cX0_init 17 = .ok (.aload_n 0, 1) := by decide +kernel
theorem dX0_init_18 : decode cX0_init 18 = .ok (.iload 5, 2) := by decide +kernel
theorem dX0_init_20 : decode cX0_init 20 = .ok (.putfield 19, 3) := by decide +kernel
theorem dX0_init_23 : decode cX0_init 23 = .ok (.aload_n 0, 1) := by decide +kernel
theorem dX0_init_24 : decode cX0_init 24 = .ok (.iload 6, 2) := by decide +kernel
theorem dX0_init_26 : decode cX0_init 26 = .ok (.putfield 22, 3) := by decide +kernel
theorem dX0_init_29 : decode cX0_init 29 = .ok (.aload_n 0, 1) := by decide +kernel
theorem dX0_init_30 : decode cX0_init 30 = .ok (.iload 7, 2) := by decide +kernel
theorem dX0_init_32 : decode cX0_init 32 = .ok (.putfield 25, 3) := by decide +kernel
theorem dX0_init_35 : decode cX0_init 35 = .ok (.aload_n 0, 1) := by decide +kernel
theorem dX0_init_36 : decode cX0_init 36 = .ok (.iconst 1, 1) := by decide +kernel
theorem dX0_init_37 : decode cX0_init 37 = .ok (.putfield 28, 3) := by decide +kernel
theorem dX0_init_40 : decode cX0_init 40 = .ok (.return_, 1) := by decide +kernel
theorem dX0_move_0 : decode cX0_move 0 = .ok (.aload_n 0, 1) := by decide +kernel
theorem dX0_move_1 : decode cX0_move 1 = .ok (.getfield 28, 3) := by decide +kernel
theorem dX0_move_4 : decode cX0_move 4 = .ok (.ifCond .ne 4, 3) := by decide +kernel
theorem dX0_move_7 : decode cX0_move 7 = .ok (.return_, 1) := by decide +kernel
theorem dX0_move_8 : decode cX0_move 8 = .ok (.aload_n 0, 1) := by decide +kernel
theorem dX0_move_9 : decode cX0_move 9 = .ok (.getfield 31, 3) := by decide +kernel
theorem dX0_move_12 : decode cX0_move 12 = .ok (.aload_n 0, 1) := by decide +kernel
theorem dX0_move_13 : decode cX0_move 13 = .ok (.getfield 15, 3) := by decide +kernel
theorem dX0_move_16 : decode cX0_move 16 = .ok (.iadd, 1) := by decide +kernel
theorem dX0_move_17 : decode cX0_move 17 = .ok (.aload_n 0, 1) := by decide +kernel
theorem dX0_move_18 : decode cX0_move 18 = .ok (.getfield 34, 3) := by decide +kernel
theorem dX0_move_21 : decode cX0_move 21 = .ok (.aload_n 0, 1) := by decide +kernel
theorem dX0_move_22 : decode cX0_move 22 = .ok (.getfield 19, 3) := by decide +kernel
theorem dX0_move_25 : decode cX0_move 25 = .ok (.iadd, 1) := by decide +kernel
theorem dX0_move_26 : decode cX0_move 26 = .ok (.invokestatic 37, 3) := by decide +kernel
theorem dX0_move_29 : decode cX0_move 29 = .ok (.ifCond .eq 32, 3) := by decide +kernel
theorem dX0_move_32 : decode cX0_move 32 = .ok (.aload_n 0, 1) := by decide +kernel
theorem dX0_move_33 : decode cX0_move 33 = .ok (.dup, 1) := by decide +kernel
theorem dX0_move_34 : decode cX0_move 34 = .ok (.getfield 31, 3) := by decide +kernel
theorem dX0_move_37 : decode cX0_move 37 = .ok (.aload_n 0, 1) := by decide +kernel
theorem dX0_move_38 : decode cX0_move 38 = .ok (.getfield 15, 3) := by decide +kernel
theorem dX0_move_41 : decode cX0_move 41 = .ok (.iadd, 1) := by decide +kernel
theorem dX0_move_42 : decode cX0_move 42 = .ok (.putfield 31, 3) := by decide +kernel
theorem dX0_move_45 : decode cX0_move 45 = .ok (.aload_n 0, 1) := by decide +kernel
theorem dX0_move_46 : decode cX0_move 46 = .ok (.dup, 1) := by decide +kernel
theorem dX0_move_47 : decode cX0_move 47 = .ok (.getfield 34, 3) := by decide +kernel
theorem dX0_move_50 : decode cX0_move 50 = .ok (.aload_n 0, 1) := by decide +kernel
theorem dX0_move_51 : decode cX0_move 51 = .ok (.getfield 19, 3) := by decide +kernel
theorem dX0_move_54 : decode cX0_move 54 = .ok (.iadd, 1) := by decide +kernel
theorem dX0_move_55 : decode cX0_move 55 = .ok (.putfield 34, 3) := by decide +kernel
theorem dX0_move_58 : decode cX0_move 58 = .ok (.goto 8, 3) := by decide +kernel
theorem dX0_move_61 : decode cX0_move 61 = .ok (.aload_n 0, 1) := by decide +kernel
theorem dX0_move_62 : decode cX0_move 62 = .ok (.iconst 0, 1) := by decide +kernel
theorem dX0_move_63 : decode cX0_move 63 = .ok (.putfield 28, 3) := by decide +kernel
theorem dX0_move_66 : decode cX0_move 66 = .ok (.return_, 1) := by decide +kernel
theorem dX0_lose_0 : decode cX0_lose 0 = .ok (.aload_n 0, 1) := by decide +kernel
theorem dX0_lose_1 : decode cX0_lose 1 = .ok (.dup, 1) := by decide +kernel
theorem dX0_lose_2 : decode cX0_lose 2 = .ok (.getfield 25, 3) := by decide +kernel
theorem dX0_lose_5 : decode cX0_lose 5 = .ok (.iload_n 1, 1) := by decide +kernel
theorem dX0_lose_6 : decode cX0_lose 6 = .ok (.isub, 1) := by decide +kernel
theorem dX0_lose_7 : decode cX0_lose 7 = .ok (.putfield 25, 3) := by decide +kernel
theorem dX0_lose_10 : decode cX0_lose 10 = .ok (.aload_n 0, 1) := by decide +kernel
theorem dX0_lose_11 : decode cX0_lose 11 = .ok (.getfield 25, 3) := by decide +kernel
theorem dX0_lose_14 : decode cX0_lose 14 = .ok (.ifCond .gt 8, 3) := by decide +kernel
theorem dX0_lose_17 : decode cX0_lose 17 = .ok (.aload_n 0, 1) := by decide +kernel
theorem dX0_lose_18 : decode cX0_lose 18 = .ok (.iconst 0, 1) := by decide +kernel
theorem dX0_lose_19 : decode cX0_lose 19 = .ok (.putfield 28, 3) := by decide +kernel
theorem dX0_lose_22 : decode cX0_lose 22 = .ok (.return_, 1) := by decide +kernel
theorem dX0_guess_0 : decode cX0_guess 0 = .ok (.aload_n 0, 1) := by decide +kernel
theorem dX0_guess_1 : decode cX0_guess 1 = .ok (.getfield 25, 3) := by decide +kernel
theorem dX0_guess_4 : decode cX0_guess 4 = .ok (.bipush 9, 2) := by decide +kernel
theorem dX0_guess_6 : decode cX0_guess 6 = .ok (.if_icmp .gt 10, 3) := by decide +kernel
theorem dX0_guess_9 : decode cX0_guess 9 = .ok (.aload_n 0, 1) := by decide +kernel
theorem dX0_guess_10 : decode cX0_guess 10 = .ok (.getfield 25, 3) := by decide +kernel
theorem dX0_guess_13 : decode cX0_guess 13 = .ok (.goto 13, 3) := by decide +kernel
theorem dX0_guess_16 : decode cX0_guess 16 = .ok (.aload_n 0, 1) := by decide +kernel
theorem dX0_guess_17 : decode cX0_guess 17 = .ok (.getfield 25, 3) := by decide +kernel
theorem dX0_guess_20 : decode cX0_guess 20 = .ok (.bipush 10, 2) := by decide +kernel
theorem dX0_guess_22 : decode cX0_guess 22 = .ok (.idiv, 1) := by decide +kernel
theorem dX0_guess_23 : decode cX0_guess 23 = .ok (.bipush 10, 2) := by decide +kernel
theorem dX0_guess_25 : decode cX0_guess 25 = .ok (.imul, 1) := by decide +kernel
theorem dX0_guess_26 : decode cX0_guess 26 = .ok (.ireturn, 1) := by decide +kernel
theorem dX0_tell_0 : decode cX0_tell 0 = .ok (.iload_n 1, 1) := by decide +kernel
theorem dX0_tell_1 : decode cX0_tell 1 = .ok (.tableswitch 86 0 6 #[43, 48, 53, 58, 63, 68, 73], 43) := by decide +kernel
theorem dX0_tell_44 : decode cX0_tell 44 = .ok (.aload_n 0, 1) := by decide +kernel
theorem dX0_tell_45 : decode cX0_tell 45 = .ok (.getfield 31, 3) := by decide +kernel
theorem dX0_tell_48 : decode cX0_tell 48 = .ok (.ireturn, 1) := by decide +kernel
theorem dX0_tell_49 : decode cX0_tell 49 = .ok (.aload_n 0, 1) := by decide +kernel
theorem dX0_tell_50 : decode cX0_tell 50 = .ok (.getfield 34, 3) := by decide +kernel
theorem dX0_tell_53 : decode cX0_tell 53 = .ok (.ireturn, 1) := by decide +kernel
theorem dX0_tell_54 : decode cX0_tell 54 = .ok (.aload_n 0, 1) := by decide +kernel
theorem dX0_tell_55 : decode cX0_tell 55 = .ok (.getfield 15, 3) := by decide +kernel
theorem dX0_tell_58 : decode cX0_tell 58 = .ok (.ireturn, 1) := by decide +kernel
theorem dX0_tell_59 : decode cX0_tell 59 = .ok (.aload_n 0, 1) := by decide +kernel
theorem dX0_tell_60 : decode cX0_tell 60 = .ok (.getfield 19, 3) := by decide +kernel
theorem dX0_tell_63 : decode cX0_tell 63 = .ok (.ireturn, 1) := by decide +kernel
theorem dX0_tell_64 : decode cX0_tell 64 = .ok (.aload_n 0, 1) := by decide +kernel
theorem dX0_tell_65 : decode cX0_tell 65 = .ok (.getfield 22, 3) := by decide +kernel
theorem dX0_tell_68 : decode cX0_tell 68 = .ok (.ireturn, 1) := by decide +kernel
theorem dX0_tell_69 : decode cX0_tell 69 = .ok (.aload_n 0, 1) := by decide +kernel
theorem dX0_tell_70 : decode cX0_tell 70 = .ok (.getfield 25, 3) := by decide +kernel
theorem dX0_tell_73 : decode cX0_tell 73 = .ok (.ireturn, 1) := by decide +kernel
theorem dX0_tell_74 : decode cX0_tell 74 = .ok (.aload_n 0, 1) := by decide +kernel
theorem dX0_tell_75 : decode cX0_tell 75 = .ok (.getfield 28, 3) := by decide +kernel
theorem dX0_tell_78 : decode cX0_tell 78 = .ok (.ifCond .eq 7, 3) := by decide +kernel
theorem dX0_tell_81 : decode cX0_tell 81 = .ok (.iconst 1, 1) := by decide +kernel
theorem dX0_tell_82 : decode cX0_tell 82 = .ok (.goto 4, 3) := by decide +kernel
theorem dX0_tell_85 : decode cX0_tell 85 = .ok (.iconst 0, 1) := by decide +kernel
theorem dX0_tell_86 : decode cX0_tell 86 = .ok (.ireturn, 1) := by decide +kernel
theorem dX0_tell_87 : decode cX0_tell 87 = .ok (.aload_n 0, 1) := by decide +kernel
theorem dX0_tell_88 : decode cX0_tell 88 = .ok (.getfield 9, 3) := by decide +kernel
theorem dX0_tell_91 : decode cX0_tell 91 = .ok (.ifCond .eq 7, 3) := by decide +kernel
theorem dX0_tell_94 : decode cX0_tell 94 = .ok (.iconst 1, 1) := by decide +kernel
theorem dX0_tell_95 : decode cX0_tell 95 = .ok (.goto 4, 3) := by decide +kernel
theorem dX0_tell_98 : decode cX0_tell 98 = .ok (.iconst 0, 1) := by decide +kernel
theorem dX0_tell_99 : decode cX0_tell 99 = .ok (.ireturn, 1) := by decide +kernel
theorem dX1_init_0 : decode cX1_init 0 = .ok (.aload_n 0, 1) := by decide +kernel
theorem dX1_init_1 : decode cX1_init 1 = .ok (.iload_n 1, 1) := by decide +kernel
theorem dX1_init_2 : decode cX1_init 2 = .ok (.iload_n 2, 1) := by decide +kernel
theorem dX1_init_3 : decode cX1_init 3 = .ok (.invokespecial 1, 3) := by decide +kernel
theorem dX1_init_6 : decode cX1_init 6 = .ok (.aload_n 0, 1) := by decide +kernel
theorem dX1_init_7 : decode cX1_init 7 = .ok (.iload_n 3, 1) := by decide +kernel
theorem dX1_init_8 : decode cX1_init 8 = .ok (.putfield 7, 3) := by decide +kernel
theorem dX1_init_11 : decode cX1_init 11 = .ok (.return_, 1) := by decide +kernel
theorem dX2_init_0 : decode cX2_init 0 = .ok (.aload_n 0, 1) := by decide +kernel
theorem dX2_init_1 : decode cX2_init 1 = .ok (.invokespecial 1, 3) := by decide +kernel
theorem dX2_init_4 : decode cX2_init 4 = .ok (.aload_n 0, 1) := by decide +kernel
theorem dX2_init_5 : decode cX2_init 5 = .ok (.bipush 11, 2) := by decide +kernel
theorem dX2_init_7 : decode cX2_init 7 = .ok (.putfield 7, 3) := by decide +kernel
theorem dX2_init_10 : decode cX2_init 10 = .ok (.return_, 1) := by decide +kernel
theorem dX2_draw_0 : decode cX2_draw 0 = .ok (.aload_n 0, 1) := by decide +kernel
theorem dX2_draw_1 : decode cX2_draw 1 = .ok (.getfield 7, 3) := by decide +kernel
theorem dX2_draw_4 : decode cX2_draw 4 = .ok (.istore_n 1, 1) := by decide +kernel
theorem dX2_draw_5 : decode cX2_draw 5 = .ok (.aload_n 0, 1) := by decide +kernel
theorem dX2_draw_6 : decode cX2_draw 6 = .ok (.bipush 53, 2) := by decide +kernel
theorem dX2_draw_8 : decode cX2_draw 8 = .ok (.iload_n 1, 1) := by decide +kernel
theorem dX2_draw_9 : decode cX2_draw 9 = .ok (.imul, 1) := by decide +kernel
theorem dX2_draw_10 : decode cX2_draw 10 = .ok (.bipush 29, 2) := by decide +kernel
theorem dX2_draw_12 : decode cX2_draw 12 = .ok (.iadd, 1) := by decide +kernel
theorem dX2_draw_13 : decode cX2_draw 13 = .ok (.sipush 241, 3) := by decide +kernel
theorem dX2_draw_16 : decode cX2_draw 16 = .ok (.irem, 1) := by decide +kernel
theorem dX2_draw_17 : decode cX2_draw 17 = .ok (.putfield 7, 3) := by decide +kernel
theorem dX2_draw_20 : decode cX2_draw 20 = .ok (.aload_n 0, 1) := by decide +kernel
theorem dX2_draw_21 : decode cX2_draw 21 = .ok (.dup, 1) := by decide +kernel
theorem dX2_draw_22 : decode cX2_draw 22 = .ok (.getfield 13, 3) := by decide +kernel
theorem dX2_draw_25 : decode cX2_draw 25 = .ok (.iconst 1, 1) := by decide +kernel
theorem dX2_draw_26 : decode cX2_draw 26 = .ok (.iadd, 1) := by decide +kernel
theorem dX2_draw_27 : decode cX2_draw 27 = .ok (.putfield 13, 3) := by decide +kernel
theorem dX2_draw_30 : decode cX2_draw 30 = .ok (.iload_n 1, 1) := by decide +kernel
theorem dX2_draw_31 : decode cX2_draw 31 = .ok (.ireturn, 1) := by decide +kernel
theorem dX2_slipOf_0 : decode cX2_slipOf 0 = .ok (.aload_n 0, 1) := by decide +kernel
theorem dX2_slipOf_1 : decode cX2_slipOf 1 = .ok (.invokevirtual 16, 3) := by decide +kernel
theorem dX2_slipOf_4 : decode cX2_slipOf 4 = .ok (.iconst 2, 1) := by decide +kernel
theorem dX2_slipOf_5 : decode cX2_slipOf 5 = .ok (.iload_n 1, 1) := by decide +kernel
theorem dX2_slipOf_6 : decode cX2_slipOf 6 = .ok (.imul, 1) := by decide +kernel
theorem dX2_slipOf_7 : decode cX2_slipOf 7 = .ok (.iconst 1, 1) := by decide +kernel
theorem dX2_slipOf_8 : decode cX2_slipOf 8 = .ok (.iadd, 1) := by decide +kernel
theorem dX2_slipOf_9 : decode cX2_slipOf 9 = .ok (.irem, 1) := by decide +kernel
theorem dX2_slipOf_10 : decode cX2_slipOf 10 = .ok (.iload_n 1, 1) := by decide +kernel
theorem dX2_slipOf_11 : decode cX2_slipOf 11 = .ok (.isub, 1) := by decide +kernel
theorem dX2_slipOf_12 : decode cX2_slipOf 12 = .ok (.ireturn, 1) := by decide +kernel
theorem dX3_init_0 : decode cX3_init 0 = .ok (.aload_n 0, 1) := by decide +kernel
theorem dX3_init_1 : decode cX3_init 1 = .ok (.iload_n 1, 1) := by decide +kernel
theorem dX3_init_2 : decode cX3_init 2 = .ok (.iload_n 2, 1) := by decide +kernel
theorem dX3_init_3 : decode cX3_init 3 = .ok (.invokespecial 1, 3) := by decide +kernel
theorem dX3_init_6 : decode cX3_init 6 = .ok (.aload_n 0, 1) := by decide +kernel
theorem dX3_init_7 : decode cX3_init 7 = .ok (.iload_n 3, 1) := by decide +kernel
theorem dX3_init_8 : decode cX3_init 8 = .ok (.putfield 7, 3) := by decide +kernel
theorem dX3_init_11 : decode cX3_init 11 = .ok (.aload_n 0, 1) := by decide +kernel
theorem dX3_init_12 : decode cX3_init 12 = .ok (.iload 4, 2) := by decide +kernel
theorem dX3_init_14 : decode cX3_init 14 = .ok (.putfield 13, 3) := by decide +kernel
theorem dX3_init_17 : decode cX3_init 17 = .ok (.aload_n 0, 1) := by decide +kernel
theorem dX3_init_18 : decode cX3_init 18 = .ok (.iload 5, 2) := by decide +kernel
theorem dX3_init_20 : decode cX3_init 20 = .ok (.putfield 16, 3) := by decide +kernel
theorem dX3_init_23 : decode cX3_init 23 = .ok (.aload_n 0, 1) := by decide +kernel
theorem dX3_init_24 : decode cX3_init 24 = .ok (.iload 6, 2) := by decide +kernel
theorem dX3_init_26 : decode cX3_init 26 = .ok (.putfield 19, 3) := by decide +kernel
theorem dX3_init_29 : decode cX3_init 29 = .ok (.return_, 1) := by decide +kernel
theorem dX3_canSee_0 : decode cX3_canSee 0 = .ok (.aload_n 1, 1) := by decide +kernel
theorem dX3_canSee_1 : decode cX3_canSee 1 = .ok (.getfield 22, 3) := by decide +kernel
theorem dX3_canSee_4 : decode cX3_canSee 4 = .ok (.ifCond .eq 37, 3) := by decide +kernel
theorem dX3_canSee_7 : decode cX3_canSee 7 = .ok (.aload_n 1, 1) := by decide +kernel
theorem dX3_canSee_8 : decode cX3_canSee 8 = .ok (.getfield 28, 3) := by decide +kernel
theorem dX3_canSee_11 : decode cX3_canSee 11 = .ok (.aload_n 0, 1) := by decide +kernel
theorem dX3_canSee_12 : decode cX3_canSee 12 = .ok (.getfield 13, 3) := by decide +kernel
theorem dX3_canSee_15 : decode cX3_canSee 15 = .ok (.if_icmp .le 26, 3) := by decide +kernel
theorem dX3_canSee_18 : decode cX3_canSee 18 = .ok (.aload_n 0, 1) := by decide +kernel
theorem dX3_canSee_19 : decode cX3_canSee 19 = .ok (.aload_n 0, 1) := by decide +kernel
theorem dX3_canSee_20 : decode cX3_canSee 20 = .ok (.getfield 7, 3) := by decide +kernel
theorem dX3_canSee_23 : decode cX3_canSee 23 = .ok (.aload_n 1, 1) := by decide +kernel
theorem dX3_canSee_24 : decode cX3_canSee 24 = .ok (.getfield 31, 3) := by decide +kernel
theorem dX3_canSee_27 : decode cX3_canSee 27 = .ok (.aload_n 1, 1) := by decide +kernel
theorem dX3_canSee_28 : decode cX3_canSee 28 = .ok (.getfield 34, 3) := by decide +kernel
theorem dX3_canSee_31 : decode cX3_canSee 31 = .ok (.invokevirtual 37, 3) := by decide +kernel
theorem dX3_canSee_34 : decode cX3_canSee 34 = .ok (.ifCond .eq 7, 3) := by decide +kernel
theorem dX3_canSee_37 : decode cX3_canSee 37 = .ok (.iconst 1, 1) := by decide +kernel
theorem dX3_canSee_38 : decode cX3_canSee 38 = .ok (.goto 4, 3) := by decide +kernel
theorem dX3_canSee_41 : decode cX3_canSee 41 = .ok (.iconst 0, 1) := by decide +kernel
theorem dX3_canSee_42 : decode cX3_canSee 42 = .ok (.ireturn, 1) := by decide +kernel
theorem dX3_tell_0 : decode cX3_tell 0 = .ok (.iload_n 1, 1) := by decide +kernel
theorem dX3_tell_1 : decode cX3_tell 1 = .ok (.tableswitch 104 0 8 #[51, 56, 61, 66, 71, 76, 81, 94, 99], 51) := by decide +kernel
theorem dX3_tell_52 : decode cX3_tell 52 = .ok (.aload_n 0, 1) := by decide +kernel
theorem dX3_tell_53 : decode cX3_tell 53 = .ok (.getfield 41, 3) := by decide +kernel
theorem dX3_tell_56 : decode cX3_tell 56 = .ok (.ireturn, 1) := by decide +kernel
theorem dX3_tell_57 : decode cX3_tell 57 = .ok (.aload_n 0, 1) := by decide +kernel
theorem dX3_tell_58 : decode cX3_tell 58 = .ok (.getfield 42, 3) := by decide +kernel
theorem dX3_tell_61 : decode cX3_tell 61 = .ok (.ireturn, 1) := by decide +kernel
theorem dX3_tell_62 : decode cX3_tell 62 = .ok (.aload_n 0, 1) := by decide +kernel
theorem dX3_tell_63 : decode cX3_tell 63 = .ok (.getfield 7, 3) := by decide +kernel
theorem dX3_tell_66 : decode cX3_tell 66 = .ok (.ireturn, 1) := by decide +kernel
theorem dX3_tell_67 : decode cX3_tell 67 = .ok (.aload_n 0, 1) := by decide +kernel
theorem dX3_tell_68 : decode cX3_tell 68 = .ok (.getfield 13, 3) := by decide +kernel
theorem dX3_tell_71 : decode cX3_tell 71 = .ok (.ireturn, 1) := by decide +kernel
theorem dX3_tell_72 : decode cX3_tell 72 = .ok (.aload_n 0, 1) := by decide +kernel
theorem dX3_tell_73 : decode cX3_tell 73 = .ok (.getfield 16, 3) := by decide +kernel
theorem dX3_tell_76 : decode cX3_tell 76 = .ok (.ireturn, 1) := by decide +kernel
theorem dX3_tell_77 : decode cX3_tell 77 = .ok (.aload_n 0, 1) := by decide +kernel
theorem dX3_tell_78 : decode cX3_tell 78 = .ok (.getfield 19, 3) := by decide +kernel
theorem dX3_tell_81 : decode cX3_tell 81 = .ok (.ireturn, 1) := by decide +kernel
theorem dX3_tell_82 : decode cX3_tell 82 = .ok (.aload_n 0, 1) := by decide +kernel
theorem dX3_tell_83 : decode cX3_tell 83 = .ok (.getfield 43, 3) := by decide +kernel
theorem dX3_tell_86 : decode cX3_tell 86 = .ok (.ifCond .eq 7, 3) := by decide +kernel
theorem dX3_tell_89 : decode cX3_tell 89 = .ok (.iconst 1, 1) := by decide +kernel
theorem dX3_tell_90 : decode cX3_tell 90 = .ok (.goto 4, 3) := by decide +kernel
theorem dX3_tell_93 : decode cX3_tell 93 = .ok (.iconst 0, 1) := by decide +kernel
theorem dX3_tell_94 : decode cX3_tell 94 = .ok (.ireturn, 1) := by decide +kernel
theorem dX3_tell_95 : decode cX3_tell 95 = .ok (.aload_n 0, 1) := by decide +kernel
theorem dX3_tell_96 : decode cX3_tell 96 = .ok (.getfield 46, 3) := by decide +kernel
theorem dX3_tell_99 : decode cX3_tell 99 = .ok (.ireturn, 1) := by decide +kernel
theorem dX3_tell_100 : decode cX3_tell 100 = .ok (.aload_n 0, 1) := by decide +kernel
theorem dX3_tell_101 : decode cX3_tell 101 = .ok (.getfield 49, 3) := by decide +kernel
theorem dX3_tell_104 : decode cX3_tell 104 = .ok (.ireturn, 1) := by decide +kernel
theorem dX3_tell_105 : decode cX3_tell 105 = .ok (.aload_n 0, 1) := by decide +kernel
theorem dX3_tell_106 : decode cX3_tell 106 = .ok (.getfield 52, 3) := by decide +kernel
theorem dX3_tell_109 : decode cX3_tell 109 = .ok (.ireturn, 1) := by decide +kernel
theorem dX4_init_0 : decode cX4_init 0 = .ok (.aload_n 0, 1) := by decide +kernel
theorem dX4_init_1 : decode cX4_init 1 = .ok (.invokespecial 1, 3) := by decide +kernel
theorem dX4_init_4 : decode cX4_init 4 = .ok (.aload_n 0, 1) := by decide +kernel
theorem dX4_init_5 : decode cX4_init 5 = .ok (.iload_n 1, 1) := by decide +kernel
theorem dX4_init_6 : decode cX4_init 6 = .ok (.putfield 7, 3) := by decide +kernel
theorem dX4_init_9 : decode cX4_init 9 = .ok (.aload_n 0, 1) := by decide +kernel
theorem dX4_init_10 : decode cX4_init 10 = .ok (.iload_n 2, 1) := by decide +kernel
theorem dX4_init_11 : decode cX4_init 11 = .ok (.putfield 13, 3) := by decide +kernel
theorem dX4_init_14 : decode cX4_init 14 = .ok (.return_, 1) := by decide +kernel
theorem dX4_farFrom_0 : decode cX4_farFrom 0 = .ok (.aload_n 0, 1) := by decide +kernel
theorem dX4_farFrom_1 : decode cX4_farFrom 1 = .ok (.getfield 7, 3) := by decide +kernel
theorem dX4_farFrom_4 : decode cX4_farFrom 4 = .ok (.iload_n 1, 1) := by decide +kernel
theorem dX4_farFrom_5 : decode cX4_farFrom 5 = .ok (.isub, 1) := by decide +kernel
theorem dX4_farFrom_6 : decode cX4_farFrom 6 = .ok (.istore_n 3, 1) := by decide +kernel
theorem dX4_farFrom_7 : decode cX4_farFrom 7 = .ok (.aload_n 0, 1) := by decide +kernel
theorem dX4_farFrom_8 : decode cX4_farFrom 8 = .ok (.getfield 13, 3) := by decide +kernel
theorem dX4_farFrom_11 : decode cX4_farFrom 11 = .ok (.iload_n 2, 1) := by decide +kernel
theorem dX4_farFrom_12 : decode cX4_farFrom 12 = .ok (.isub, 1) := by decide +kernel
theorem dX4_farFrom_13 : decode cX4_farFrom 13 = .ok (.istore 4, 2) := by decide +kernel
theorem dX4_farFrom_15 : decode cX4_farFrom 15 = .ok (.iload_n 3, 1) := by decide +kernel
theorem dX4_farFrom_16 : decode cX4_farFrom 16 = .ok (.iload_n 3, 1) := by decide +kernel
theorem dX4_farFrom_17 : decode cX4_farFrom 17 = .ok (.imul, 1) := by decide +kernel
theorem dX4_farFrom_18 : decode cX4_farFrom 18 = .ok (.iload 4, 2) := by decide +kernel
theorem dX4_farFrom_20 : decode cX4_farFrom 20 = .ok (.iload 4, 2) := by decide +kernel
theorem dX4_farFrom_22 : decode cX4_farFrom 22 = .ok (.imul, 1) := by decide +kernel
theorem dX4_farFrom_23 : decode cX4_farFrom 23 = .ok (.iadd, 1) := by decide +kernel
theorem dX4_farFrom_24 : decode cX4_farFrom 24 = .ok (.ireturn, 1) := by decide +kernel
theorem dX4_isWithin_0 : decode cX4_isWithin 0 = .ok (.aload_n 0, 1) := by decide +kernel
theorem dX4_isWithin_1 : decode cX4_isWithin 1 = .ok (.getfield 7, 3) := by decide +kernel
theorem dX4_isWithin_4 : decode cX4_isWithin 4 = .ok (.iload_n 2, 1) := by decide +kernel
theorem dX4_isWithin_5 : decode cX4_isWithin 5 = .ok (.isub, 1) := by decide +kernel
theorem dX4_isWithin_6 : decode cX4_isWithin 6 = .ok (.istore 4, 2) := by decide +kernel
theorem dX4_isWithin_8 : decode cX4_isWithin 8 = .ok (.aload_n 0, 1) := by decide +kernel
theorem dX4_isWithin_9 : decode cX4_isWithin 9 = .ok (.getfield 13, 3) := by decide +kernel
theorem dX4_isWithin_12 : decode cX4_isWithin 12 = .ok (.iload_n 3, 1) := by decide +kernel
theorem dX4_isWithin_13 : decode cX4_isWithin 13 = .ok (.isub, 1) := by decide +kernel
theorem dX4_isWithin_14 : decode cX4_isWithin 14 = .ok (.istore 5, 2) := by decide +kernel
theorem dX4_isWithin_16 : decode cX4_isWithin 16 = .ok (.iload 4, 2) := by decide +kernel
theorem dX4_isWithin_18 : decode cX4_isWithin 18 = .ok (.iload 4, 2) := by decide +kernel
theorem dX4_isWithin_20 : decode cX4_isWithin 20 = .ok (.imul, 1) := by decide +kernel
theorem dX4_isWithin_21 : decode cX4_isWithin 21 = .ok (.iload 5, 2) := by decide +kernel
theorem dX4_isWithin_23 : decode cX4_isWithin 23 = .ok (.iload 5, 2) := by decide +kernel
theorem dX4_isWithin_25 : decode cX4_isWithin 25 = .ok (.imul, 1) := by decide +kernel
theorem dX4_isWithin_26 : decode cX4_isWithin 26 = .ok (.iadd, 1) := by decide +kernel
theorem dX4_isWithin_27 : decode cX4_isWithin 27 = .ok (.iload_n 1, 1) := by decide +kernel
theorem dX4_isWithin_28 : decode cX4_isWithin 28 = .ok (.iload_n 1, 1) := by decide +kernel
theorem dX4_isWithin_29 : decode cX4_isWithin 29 = .ok (.imul, 1) := by decide +kernel
theorem dX4_isWithin_30 : decode cX4_isWithin 30 = .ok (.if_icmp .gt 7, 3) := by decide +kernel
theorem dX4_isWithin_33 : decode cX4_isWithin 33 = .ok (.iconst 1, 1) := by decide +kernel
theorem dX4_isWithin_34 : decode cX4_isWithin 34 = .ok (.goto 4, 3) := by decide +kernel
theorem dX4_isWithin_37 : decode cX4_isWithin 37 = .ok (.iconst 0, 1) := by decide +kernel
theorem dX4_isWithin_38 : decode cX4_isWithin 38 = .ok (.ireturn, 1) := by decide +kernel
theorem dX4_isOnMap_0 : decode cX4_isOnMap 0 = .ok (.aload_n 0, 1) := by decide +kernel
theorem dX4_isOnMap_1 : decode cX4_isOnMap 1 = .ok (.getfield 7, 3) := by decide +kernel
theorem dX4_isOnMap_4 : decode cX4_isOnMap 4 = .ok (.aload_n 0, 1) := by decide +kernel
theorem dX4_isOnMap_5 : decode cX4_isOnMap 5 = .ok (.getfield 13, 3) := by decide +kernel
theorem dX4_isOnMap_8 : decode cX4_isOnMap 8 = .ok (.invokestatic 16, 3) := by decide +kernel
theorem dX4_isOnMap_11 : decode cX4_isOnMap 11 = .ok (.ireturn, 1) := by decide +kernel
theorem dX5_covers_0 : decode cX5_covers 0 = .ok (.aload_n 1, 1) := by decide +kernel
theorem dX5_covers_1 : decode cX5_covers 1 = .ok (.getfield 19, 3) := by decide +kernel
theorem dX5_covers_4 : decode cX5_covers 4 = .ok (.aload_n 0, 1) := by decide +kernel
theorem dX5_covers_5 : decode cX5_covers 5 = .ok (.getfield 7, 3) := by decide +kernel
theorem dX5_covers_8 : decode cX5_covers 8 = .ok (.aload_n 0, 1) := by decide +kernel
theorem dX5_covers_9 : decode cX5_covers 9 = .ok (.getfield 13, 3) := by decide +kernel
theorem dX5_covers_12 : decode cX5_covers 12 = .ok (.invokestatic 24, 3) := by decide +kernel
theorem dX5_covers_15 : decode cX5_covers 15 = .ok (.ifCond .eq 26, 3) := by decide +kernel
theorem dX5_covers_18 : decode cX5_covers 18 = .ok (.aload_n 0, 1) := by decide +kernel
theorem dX5_covers_19 : decode cX5_covers 19 = .ok (.aload_n 0, 1) := by decide +kernel
theorem dX5_covers_20 : decode cX5_covers 20 = .ok (.getfield 16, 3) := by decide +kernel
theorem dX5_covers_23 : decode cX5_covers 23 = .ok (.aload_n 1, 1) := by decide +kernel
theorem dX5_covers_24 : decode cX5_covers 24 = .ok (.getfield 30, 3) := by decide +kernel
theorem dX5_covers_27 : decode cX5_covers 27 = .ok (.aload_n 1, 1) := by decide +kernel
theorem dX5_covers_28 : decode cX5_covers 28 = .ok (.getfield 33, 3) := by decide +kernel
theorem dX5_covers_31 : decode cX5_covers 31 = .ok (.invokevirtual 36, 3) := by decide +kernel
theorem dX5_covers_34 : decode cX5_covers 34 = .ok (.ifCond .eq 7, 3) := by decide +kernel
theorem dX5_covers_37 : decode cX5_covers 37 = .ok (.iconst 1, 1) := by decide +kernel
theorem dX5_covers_38 : decode cX5_covers 38 = .ok (.goto 4, 3) := by decide +kernel
theorem dX5_covers_41 : decode cX5_covers 41 = .ok (.iconst 0, 1) := by decide +kernel
theorem dX5_covers_42 : decode cX5_covers 42 = .ok (.ireturn, 1) := by decide +kernel
theorem dX6_init_0 : decode cX6_init 0 = .ok (.aload_n 0, 1) := by decide +kernel
theorem dX6_init_1 : decode cX6_init 1 = .ok (.aload_n 1, 1) := by decide +kernel
theorem dX6_init_2 : decode cX6_init 2 = .ok (.getfield 1, 3) := by decide +kernel
theorem dX6_init_5 : decode cX6_init 5 = .ok (.aload_n 1, 1) := by decide +kernel
theorem dX6_init_6 : decode cX6_init 6 = .ok (.getfield 7, 3) := by decide +kernel
theorem dX6_init_9 : decode cX6_init 9 = .ok (.invokespecial 10, 3) := by decide +kernel
theorem dX6_init_12 : decode cX6_init 12 = .ok (.aload_n 0, 1) := by decide +kernel
theorem dX6_init_13 : decode cX6_init 13 = .ok (.aload_n 1, 1) := by decide +kernel
theorem dX6_init_14 : decode cX6_init 14 = .ok (.putfield 16, 3) := by decide +kernel
theorem dX6_init_17 : decode cX6_init 17 = .ok (.return_, 1) := by decide +kernel
theorem dX6_write_0 : decode cX6_write 0 = .ok (.aload_n 0, 1) := by decide +kernel
theorem dX6_write_1 : decode cX6_write 1 = .ok (.aload_n 1, 1) := by decide +kernel
theorem dX6_write_2 : decode cX6_write 2 = .ok (.putfield 16, 3) := by decide +kernel
theorem dX6_write_5 : decode cX6_write 5 = .ok (.aload_n 0, 1) := by decide +kernel
theorem dX6_write_6 : decode cX6_write 6 = .ok (.iload_n 2, 1) := by decide +kernel
theorem dX6_write_7 : decode cX6_write 7 = .ok (.putfield 22, 3) := by decide +kernel
theorem dX6_write_10 : decode cX6_write 10 = .ok (.aload_n 0, 1) := by decide +kernel
theorem dX6_write_11 : decode cX6_write 11 = .ok (.iload_n 3, 1) := by decide +kernel
theorem dX6_write_12 : decode cX6_write 12 = .ok (.putfield 23, 3) := by decide +kernel
theorem dX6_write_15 : decode cX6_write 15 = .ok (.aload_n 0, 1) := by decide +kernel
theorem dX6_write_16 : decode cX6_write 16 = .ok (.iload 4, 2) := by decide +kernel
theorem dX6_write_18 : decode cX6_write 18 = .ok (.putfield 24, 3) := by decide +kernel
theorem dX6_write_21 : decode cX6_write 21 = .ok (.aload_n 0, 1) := by decide +kernel
theorem dX6_write_22 : decode cX6_write 22 = .ok (.iload 5, 2) := by decide +kernel
theorem dX6_write_24 : decode cX6_write 24 = .ok (.putfield 27, 3) := by decide +kernel
theorem dX6_write_27 : decode cX6_write 27 = .ok (.aload_n 0, 1) := by decide +kernel
theorem dX6_write_28 : decode cX6_write 28 = .ok (.iload 5, 2) := by decide +kernel
theorem dX6_write_30 : decode cX6_write 30 = .ok (.aload_n 1, 1) := by decide +kernel
theorem dX6_write_31 : decode cX6_write 31 = .ok (.getfield 30, 3) := by decide +kernel
theorem dX6_write_34 : decode cX6_write 34 = .ok (.iadd, 1) := by decide +kernel
theorem dX6_write_35 : decode cX6_write 35 = .ok (.putfield 33, 3) := by decide +kernel
theorem dX6_write_38 : decode cX6_write 38 = .ok (.return_, 1) := by decide +kernel
theorem dX7_init_0 : decode cX7_init 0 = .ok (.aload_n 0, 1) := by decide +kernel
theorem dX7_init_1 : decode cX7_init 1 = .ok (.aload_n 2, 1) := by decide +kernel
theorem dX7_init_2 : decode cX7_init 2 = .ok (.getfield 3, 3) := by decide +kernel
theorem dX7_init_5 : decode cX7_init 5 = .ok (.aload_n 2, 1) := by decide +kernel
theorem dX7_init_6 : decode cX7_init 6 = .ok (.getfield 9, 3) := by decide +kernel
theorem dX7_init_9 : decode cX7_init 9 = .ok (.invokespecial 12, 3) := by decide +kernel
theorem dX7_init_12 : decode cX7_init 12 = .ok (.aload_n 0, 1) := by decide +kernel
theorem dX7_init_13 : decode cX7_init 13 = .ok (.iload_n 1, 1) := by decide +kernel
theorem dX7_init_14 : decode cX7_init 14 = .ok (.putfield 16, 3) := by decide +kernel
theorem dX7_init_17 : decode cX7_init 17 = .ok (.aload_n 0, 1) := by decide +kernel
theorem dX7_init_18 : decode cX7_init 18 = .ok (.aload_n 2, 1) := by decide +kernel
theorem dX7_init_19 : decode cX7_init 19 = .ok (.putfield 21, 3) := by decide +kernel
theorem dX7_init_22 : decode cX7_init 22 = .ok (.aload_n 0, 1) := by decide +kernel
theorem dX7_init_23 : decode cX7_init 23 = .ok (.iload_n 3, 1) := by decide +kernel
theorem dX7_init_24 : decode cX7_init 24 = .ok (.putfield 25, 3) := by decide +kernel
theorem dX7_init_27 : decode cX7_init 27 = .ok (.aload_n 0, 1) := by decide +kernel
theorem dX7_init_28 : decode cX7_init 28 = .ok (.iload 4, 2) := by decide +kernel
theorem dX7_init_30 : decode cX7_init 30 = .ok (.putfield 28, 3) := by decide +kernel
theorem dX7_init_33 : decode cX7_init 33 = .ok (.aload_n 0, 1) := by decide +kernel
theorem dX7_init_34 : decode cX7_init 34 = .ok (.iload 5, 2) := by decide +kernel
theorem dX7_init_36 : decode cX7_init 36 = .ok (.putfield 31, 3) := by decide +kernel
theorem dX7_init_39 : decode cX7_init 39 = .ok (.aload_n 0, 1) := by decide +kernel
theorem dX7_init_40 : decode cX7_init 40 = .ok (.iload 6, 2) := by decide +kernel
theorem dX7_init_42 : decode cX7_init 42 = .ok (.putfield 34, 3) := by decide +kernel
theorem dX7_init_45 : decode cX7_init 45 = .ok (.aload_n 0, 1) := by decide +kernel
theorem dX7_init_46 : decode cX7_init 46 = .ok (.iconst 0, 1) := by decide +kernel
theorem dX7_init_47 : decode cX7_init 47 = .ok (.putfield 37, 3) := by decide +kernel
theorem dX7_init_50 : decode cX7_init 50 = .ok (.aload_n 0, 1) := by decide +kernel
theorem dX7_init_51 : decode cX7_init 51 = .ok (.iload 5, 2) := by decide +kernel
theorem dX7_init_53 : decode cX7_init 53 = .ok (.putfield 40, 3) := by decide +kernel
theorem dX7_init_56 : decode cX7_init 56 = .ok (.aload_n 0, 1) := by decide +kernel
theorem dX7_init_57 : decode cX7_init 57 = .ok (.iconst (-1), 1) := by decide +kernel
theorem dX7_init_58 : decode cX7_init 58 = .ok (.putfield 43, 3) := by decide +kernel
theorem dX7_init_61 : decode cX7_init 61 = .ok (.return_, 1) := by decide +kernel
theorem dX7_canStart_0 : decode cX7_canStart 0 = .ok (.aload_n 0, 1) := by decide +kernel
theorem dX7_canStart_1 : decode cX7_canStart 1 = .ok (.getfield 37, 3) := by decide +kernel
theorem dX7_canStart_4 : decode cX7_canStart 4 = .ok (.ifCond .ne 14, 3) := by decide +kernel
theorem dX7_canStart_7 : decode cX7_canStart 7 = .ok (.aload_n 0, 1) := by decide +kernel
theorem dX7_canStart_8 : decode cX7_canStart 8 = .ok (.getfield 25, 3) := by decide +kernel
theorem dX7_canStart_11 : decode cX7_canStart 11 = .ok (.ifCond .le 7, 3) := by decide +kernel
theorem dX7_canStart_14 : decode cX7_canStart 14 = .ok (.iconst 1, 1) := by decide +kernel
theorem dX7_canStart_15 : decode cX7_canStart 15 = .ok (.goto 4, 3) := by decide +kernel
theorem dX7_canStart_18 : decode cX7_canStart 18 = .ok (.iconst 0, 1) := by decide +kernel
theorem dX7_canStart_19 : decode cX7_canStart 19 = .ok (.ireturn, 1) := by decide +kernel
theorem dX7_isInAir_0 : decode cX7_isInAir 0 = .ok (.aload_n 0, 1) := by decide +kernel
theorem dX7_isInAir_1 : decode cX7_isInAir 1 = .ok (.getfield 37, 3) := by decide +kernel
theorem dX7_isInAir_4 : decode cX7_isInAir 4 = .ok (.iconst 2, 1) := by decide +kernel
theorem dX7_isInAir_5 : decode cX7_isInAir 5 = .ok (.if_icmp .eq 11, 3) := by decide +kernel
theorem dX7_isInAir_8 : decode cX7_isInAir 8 = .ok (.aload_n 0, 1) := by decide +kernel
theorem dX7_isInAir_9 : decode cX7_isInAir 9 = .ok (.getfield 37, 3) := by decide +kernel
theorem dX7_isInAir_12 : decode cX7_isInAir 12 = .ok (.iconst 3, 1) := by decide +kernel
theorem dX7_isInAir_13 : decode cX7_isInAir 13 = .ok (.if_icmp .ne 7, 3) := by decide +kernel
theorem dX7_isInAir_16 : decode cX7_isInAir 16 = .ok (.iconst 1, 1) := by decide +kernel
theorem dX7_isInAir_17 : decode cX7_isInAir 17 = .ok (.goto 4, 3) := by decide +kernel
theorem dX7_isInAir_20 : decode cX7_isInAir 20 = .ok (.iconst 0, 1) := by decide +kernel
theorem dX7_isInAir_21 : decode cX7_isInAir 21 = .ok (.ireturn, 1) := by decide +kernel
theorem dX7_isTalkedTo_0 : decode cX7_isTalkedTo 0 = .ok (.aload_n 0, 1) := by decide +kernel
theorem dX7_isTalkedTo_1 : decode cX7_isTalkedTo 1 = .ok (.getfield 37, 3) := by decide +kernel
theorem dX7_isTalkedTo_4 : decode cX7_isTalkedTo 4 = .ok (.iconst 1, 1) := by decide +kernel
theorem dX7_isTalkedTo_5 : decode cX7_isTalkedTo 5 = .ok (.if_icmp .eq 11, 3) := by decide +kernel
theorem dX7_isTalkedTo_8 : decode cX7_isTalkedTo 8 = .ok (.aload_n 0, 1) := by decide +kernel
theorem dX7_isTalkedTo_9 : decode cX7_isTalkedTo 9 = .ok (.getfield 37, 3) := by decide +kernel
theorem dX7_isTalkedTo_12 : decode cX7_isTalkedTo 12 = .ok (.iconst 2, 1) := by decide +kernel
theorem dX7_isTalkedTo_13 : decode cX7_isTalkedTo 13 = .ok (.if_icmp .ne 7, 3) := by decide +kernel
theorem dX7_isTalkedTo_16 : decode cX7_isTalkedTo 16 = .ok (.iconst 1, 1) := by decide +kernel
theorem dX7_isTalkedTo_17 : decode cX7_isTalkedTo 17 = .ok (.goto 4, 3) := by decide +kernel
theorem dX7_isTalkedTo_20 : decode cX7_isTalkedTo 20 = .ok (.iconst 0, 1) := by decide +kernel
theorem dX7_isTalkedTo_21 : decode cX7_isTalkedTo 21 = .ok (.ireturn, 1) := by decide +kernel
theorem dX7_isAtBase_0 : decode cX7_isAtBase 0 = .ok (.aload_n 0, 1) := by decide +kernel
theorem dX7_isAtBase_1 : decode cX7_isAtBase 1 = .ok (.getfield 46, 3) := by decide +kernel
theorem dX7_isAtBase_4 : decode cX7_isAtBase 4 = .ok (.aload_n 0, 1) := by decide +kernel
theorem dX7_isAtBase_5 : decode cX7_isAtBase 5 = .ok (.getfield 21, 3) := by decide +kernel
theorem dX7_isAtBase_8 : decode cX7_isAtBase 8 = .ok (.getfield 3, 3) := by decide +kernel
theorem dX7_isAtBase_11 : decode cX7_isAtBase 11 = .ok (.if_icmp .ne 21, 3) := by decide +kernel
theorem dX7_isAtBase_14 : decode cX7_isAtBase 14 = .ok (.aload_n 0, 1) := by decide +kernel
theorem dX7_isAtBase_15 : decode cX7_isAtBase 15 = .ok (.getfield 47, 3) := by decide +kernel
theorem dX7_isAtBase_18 : decode cX7_isAtBase 18 = .ok (.aload_n 0, 1) := by decide +kernel
theorem dX7_isAtBase_19 : decode cX7_isAtBase 19 = .ok (.getfield 21, 3) := by decide +kernel
theorem dX7_isAtBase_22 : decode cX7_isAtBase 22 = .ok (.getfield 9, 3) := by decide +kernel
theorem dX7_isAtBase_25 : decode cX7_isAtBase 25 = .ok (.if_icmp .ne 7, 3) := by decide +kernel
theorem dX7_isAtBase_28 : decode cX7_isAtBase 28 = .ok (.iconst 1, 1) := by decide +kernel
theorem dX7_isAtBase_29 : decode cX7_isAtBase 29 = .ok (.goto 4, 3) := by decide +kernel
theorem dX7_isAtBase_32 : decode cX7_isAtBase 32 = .ok (.iconst 0, 1) := by decide +kernel
theorem dX7_isAtBase_33 : decode cX7_isAtBase 33 = .ok (.ireturn, 1) := by decide +kernel
theorem dX7_targetNumber_0 : decode cX7_targetNumber 0 = .ok (.aload_n 0, 1) := by decide +kernel
theorem dX7_targetNumber_1 : decode cX7_targetNumber 1 = .ok (.getfield 48, 3) := by decide +kernel
theorem dX7_targetNumber_4 : decode cX7_targetNumber 4 = .ok (.ifnonnull 7, 3) := by decide +kernel
theorem dX7_targetNumber_7 : decode cX7_targetNumber 7 = .ok (.iconst (-1), 1) := by decide +kernel
theorem dX7_targetNumber_8 : decode cX7_targetNumber 8 = .ok (.goto 10, 3) := by decide +kernel
theorem dX7_targetNumber_11 : decode cX7_targetNumber 11 = .ok (.aload_n 0, 1) := by decide +kernel
theorem dX7_targetNumber_12 : decode cX7_targetNumber 12 = .ok (.getfield 48, 3) := by decide +kernel
theorem dX7_targetNumber_15 : decode cX7_targetNumber 15 = .ok (.getfield 52, 3) := by decide +kernel
theorem dX7_targetNumber_18 : decode cX7_targetNumber 18 = .ok (.ireturn, 1) := by decide +kernel
theorem dX7_order_0 : decode cX7_order 0 = .ok (.aload_n 0, 1) := by decide +kernel
theorem dX7_order_1 : decode cX7_order 1 = .ok (.iconst 1, 1) := by decide +kernel
theorem dX7_order_2 : decode cX7_order 2 = .ok (.putfield 37, 3) := by decide +kernel
theorem dX7_order_5 : decode cX7_order 5 = .ok (.aload_n 0, 1) := by decide +kernel
theorem dX7_order_6 : decode cX7_order 6 = .ok (.aload_n 1, 1) := by decide +kernel
theorem dX7_order_7 : decode cX7_order 7 = .ok (.putfield 48, 3) := by decide +kernel
theorem dX7_order_10 : decode cX7_order 10 = .ok (.aload_n 0, 1) := by decide +kernel
theorem dX7_order_11 : decode cX7_order 11 = .ok (.iload_n 2, 1) := by decide +kernel
theorem dX7_order_12 : decode cX7_order 12 = .ok (.putfield 43, 3) := by decide +kernel
theorem dX7_order_15 : decode cX7_order 15 = .ok (.return_, 1) := by decide +kernel
theorem dX7_comeUp_0 : decode cX7_comeUp 0 = .ok (.aload_n 0, 1) := by decide +kernel
theorem dX7_comeUp_1 : decode cX7_comeUp 1 = .ok (.iconst 2, 1) := by decide +kernel
theorem dX7_comeUp_2 : decode cX7_comeUp 2 = .ok (.putfield 37, 3) := by decide +kernel
theorem dX7_comeUp_5 : decode cX7_comeUp 5 = .ok (.aload_n 0, 1) := by decide +kernel
theorem dX7_comeUp_6 : decode cX7_comeUp 6 = .ok (.iconst (-1), 1) := by decide +kernel
theorem dX7_comeUp_7 : decode cX7_comeUp 7 = .ok (.putfield 43, 3) := by decide +kernel
theorem dX7_comeUp_10 : decode cX7_comeUp 10 = .ok (.return_, 1) := by decide +kernel
theorem dX7_headHome_0 : decode cX7_headHome 0 = .ok (.aload_n 0, 1) := by decide +kernel
theorem dX7_headHome_1 : decode cX7_headHome 1 = .ok (.iconst 3, 1) := by decide +kernel
theorem dX7_headHome_2 : decode cX7_headHome 2 = .ok (.putfield 37, 3) := by decide +kernel
theorem dX7_headHome_5 : decode cX7_headHome 5 = .ok (.aload_n 0, 1) := by decide +kernel
theorem dX7_headHome_6 : decode cX7_headHome 6 = .ok (.aconst_null, 1) := by decide +kernel
theorem dX7_headHome_7 : decode cX7_headHome 7 = .ok (.putfield 48, 3) := by decide +kernel
theorem dX7_headHome_10 : decode cX7_headHome 10 = .ok (.return_, 1) := by decide +kernel
theorem dX7_rest_0 : decode cX7_rest 0 = .ok (.aload_n 0, 1) := by decide +kernel
theorem dX7_rest_1 : decode cX7_rest 1 = .ok (.iload_n 1, 1) := by decide +kernel
theorem dX7_rest_2 : decode cX7_rest 2 = .ok (.putfield 37, 3) := by decide +kernel
theorem dX7_rest_5 : decode cX7_rest 5 = .ok (.aload_n 0, 1) := by decide +kernel
theorem dX7_rest_6 : decode cX7_rest 6 = .ok (.iload_n 2, 1) := by decide +kernel
theorem dX7_rest_7 : decode cX7_rest 7 = .ok (.putfield 43, 3) := by decide +kernel
theorem dX7_rest_10 : decode cX7_rest 10 = .ok (.aload_n 0, 1) := by decide +kernel
theorem dX7_rest_11 : decode cX7_rest 11 = .ok (.aconst_null, 1) := by decide +kernel
theorem dX7_rest_12 : decode cX7_rest 12 = .ok (.putfield 48, 3) := by decide +kernel
theorem dX7_rest_15 : decode cX7_rest 15 = .ok (.aload_n 0, 1) := by decide +kernel
theorem dX7_rest_16 : decode cX7_rest 16 = .ok (.aload_n 0, 1) := by decide +kernel
theorem dX7_rest_17 : decode cX7_rest 17 = .ok (.getfield 31, 3) := by decide +kernel
theorem dX7_rest_20 : decode cX7_rest 20 = .ok (.putfield 40, 3) := by decide +kernel
theorem dX7_rest_23 : decode cX7_rest 23 = .ok (.aload_n 0, 1) := by decide +kernel
theorem dX7_rest_24 : decode cX7_rest 24 = .ok (.aload_n 0, 1) := by decide +kernel
theorem dX7_rest_25 : decode cX7_rest 25 = .ok (.getfield 21, 3) := by decide +kernel
theorem dX7_rest_28 : decode cX7_rest 28 = .ok (.getfield 3, 3) := by decide +kernel
theorem dX7_rest_31 : decode cX7_rest 31 = .ok (.putfield 46, 3) := by decide +kernel
theorem dX7_rest_34 : decode cX7_rest 34 = .ok (.aload_n 0, 1) := by decide +kernel
theorem dX7_rest_35 : decode cX7_rest 35 = .ok (.aload_n 0, 1) := by decide +kernel
theorem dX7_rest_36 : decode cX7_rest 36 = .ok (.getfield 21, 3) := by decide +kernel
theorem dX7_rest_39 : decode cX7_rest 39 = .ok (.getfield 9, 3) := by decide +kernel
theorem dX7_rest_42 : decode cX7_rest 42 = .ok (.putfield 47, 3) := by decide +kernel
theorem dX7_rest_45 : decode cX7_rest 45 = .ok (.return_, 1) := by decide +kernel
theorem dX7_go_0 : decode cX7_go 0 = .ok (.aload_n 0, 1) := by decide +kernel
theorem dX7_go_1 : decode cX7_go 1 = .ok (.aload_n 0, 1) := by decide +kernel
theorem dX7_go_2 : decode cX7_go 2 = .ok (.getfield 28, 3) := by decide +kernel
theorem dX7_go_5 : decode cX7_go 5 = .ok (.iload_n 1, 1) := by decide +kernel
theorem dX7_go_6 : decode cX7_go 6 = .ok (.iload_n 2, 1) := by decide +kernel
theorem dX7_go_7 : decode cX7_go 7 = .ok (.invokevirtual 57, 3) := by decide +kernel
theorem dX7_go_10 : decode cX7_go 10 = .ok (.ifCond .eq 14, 3) := by decide +kernel
theorem dX7_go_13 : decode cX7_go 13 = .ok (.aload_n 0, 1) := by decide +kernel
theorem dX7_go_14 : decode cX7_go 14 = .ok (.iload_n 1, 1) := by decide +kernel
theorem dX7_go_15 : decode cX7_go 15 = .ok (.putfield 46, 3) := by decide +kernel
theorem dX7_go_18 : decode cX7_go 18 = .ok (.aload_n 0, 1) := by decide +kernel
theorem dX7_go_19 : decode cX7_go 19 = .ok (.iload_n 2, 1) := by decide +kernel
theorem dX7_go_20 : decode cX7_go 20 = .ok (.putfield 47, 3) := by decide +kernel
theorem dX7_go_23 : decode cX7_go 23 = .ok (.return_, 1) := by decide +kernel
theorem dX7_go_24 : decode cX7_go 24 = .ok (.aload_n 0, 1) := by decide +kernel
theorem dX7_go_25 : decode cX7_go 25 = .ok (.iload_n 1, 1) := by decide +kernel
theorem dX7_go_26 : decode cX7_go 26 = .ok (.iload_n 2, 1) := by decide +kernel
theorem dX7_go_27 : decode cX7_go 27 = .ok (.invokevirtual 61, 3) := by decide +kernel
theorem dX7_go_30 : decode cX7_go 30 = .ok (.invokestatic 65, 3) := by decide +kernel
theorem dX7_go_33 : decode cX7_go 33 = .ok (.istore_n 3, 1) := by decide +kernel
theorem dX7_go_34 : decode cX7_go 34 = .ok (.aload_n 0, 1) := by decide +kernel
theorem dX7_go_35 : decode cX7_go 35 = .ok (.dup, 1) := by decide +kernel
theorem dX7_go_36 : decode cX7_go 36 = .ok (.getfield 46, 3) := by decide +kernel
theorem dX7_go_39 : decode cX7_go 39 = .ok (.iload_n 1, 1) := by decide +kernel
theorem dX7_go_40 : decode cX7_go 40 = .ok (.aload_n 0, 1) := by decide +kernel
theorem dX7_go_41 : decode cX7_go 41 = .ok (.getfield 46, 3) := by decide +kernel
theorem dX7_go_44 : decode cX7_go 44 = .ok (.isub, 1) := by decide +kernel
theorem dX7_go_45 : decode cX7_go 45 = .ok (.aload_n 0, 1) := by decide +kernel
theorem dX7_go_46 : decode cX7_go 46 = .ok (.getfield 28, 3) := by decide +kernel
theorem dX7_go_49 : decode cX7_go 49 = .ok (.imul, 1) := by decide +kernel
theorem dX7_go_50 : decode cX7_go 50 = .ok (.iload_n 3, 1) := by decide +kernel
theorem dX7_go_51 : decode cX7_go 51 = .ok (.idiv, 1) := by decide +kernel
theorem dX7_go_52 : decode cX7_go 52 = .ok (.iadd, 1) := by decide +kernel
theorem dX7_go_53 : decode cX7_go 53 = .ok (.putfield 46, 3) := by decide +kernel
theorem dX7_go_56 : decode cX7_go 56 = .ok (.aload_n 0, 1) := by decide +kernel
theorem dX7_go_57 : decode cX7_go 57 = .ok (.dup, 1) := by decide +kernel
theorem dX7_go_58 : decode cX7_go 58 = .ok (.getfield 47, 3) := by decide +kernel
theorem dX7_go_61 : decode cX7_go 61 = .ok (.iload_n 2, 1) := by decide +kernel
theorem dX7_go_62 : decode cX7_go 62 = .ok (.aload_n 0, 1) := by decide +kernel
theorem dX7_go_63 : decode cX7_go 63 = .ok (.getfield 47, 3) := by decide +kernel
theorem dX7_go_66 : decode cX7_go 66 = .ok (.isub, 1) := by decide +kernel
theorem dX7_go_67 : decode cX7_go 67 = .ok (.aload_n 0, 1) := by decide +kernel
theorem dX7_go_68 : decode cX7_go 68 = .ok (.getfield 28, 3) := by decide +kernel
theorem dX7_go_71 : decode cX7_go 71 = .ok (.imul, 1) := by decide +kernel
theorem dX7_go_72 : decode cX7_go 72 = .ok (.iload_n 3, 1) := by decide +kernel
theorem dX7_go_73 : decode cX7_go 73 = .ok (.idiv, 1) := by decide +kernel
theorem dX7_go_74 : decode cX7_go 74 = .ok (.iadd, 1) := by decide +kernel
theorem dX7_go_75 : decode cX7_go 75 = .ok (.putfield 47, 3) := by decide +kernel
theorem dX7_go_78 : decode cX7_go 78 = .ok (.return_, 1) := by decide +kernel
theorem dX7_minutesBack_0 : decode cX7_minutesBack 0 = .ok (.iconst 0, 1) := by decide +kernel
theorem dX7_minutesBack_1 : decode cX7_minutesBack 1 = .ok (.istore_n 1, 1) := by decide +kernel
theorem dX7_minutesBack_2 : decode cX7_minutesBack 2 = .ok (.iload_n 1, 1) := by decide +kernel
theorem dX7_minutesBack_3 : decode cX7_minutesBack 3 = .ok (.bipush 100, 2) := by decide +kernel
theorem dX7_minutesBack_5 : decode cX7_minutesBack 5 = .ok (.if_icmp .ge 36, 3) := by decide +kernel
theorem dX7_minutesBack_8 : decode cX7_minutesBack 8 = .ok (.aload_n 0, 1) := by decide +kernel
theorem dX7_minutesBack_9 : decode cX7_minutesBack 9 = .ok (.aload_n 0, 1) := by decide +kernel
theorem dX7_minutesBack_10 : decode cX7_minutesBack 10 = .ok (.getfield 28, 3) := by decide +kernel
theorem dX7_minutesBack_13 : decode cX7_minutesBack 13 = .ok (.iload_n 1, 1) := by decide +kernel
theorem dX7_minutesBack_14 : decode cX7_minutesBack 14 = .ok (.imul, 1) := by decide +kernel
theorem dX7_minutesBack_15 : decode cX7_minutesBack 15 = .ok (.aload_n 0, 1) := by decide +kernel
theorem dX7_minutesBack_16 : decode cX7_minutesBack 16 = .ok (.getfield 21, 3) := by decide +kernel
theorem dX7_minutesBack_19 : decode cX7_minutesBack 19 = .ok (.getfield 3, 3) := by decide +kernel
theorem dX7_minutesBack_22 : decode cX7_minutesBack 22 = .ok (.aload_n 0, 1) := by decide +kernel
theorem dX7_minutesBack_23 : decode cX7_minutesBack 23 = .ok (.getfield 21, 3) := by decide +kernel
theorem dX7_minutesBack_26 : decode cX7_minutesBack 26 = .ok (.getfield 9, 3) := by decide +kernel
theorem dX7_minutesBack_29 : decode cX7_minutesBack 29 = .ok (.invokevirtual 57, 3) := by decide +kernel
theorem dX7_minutesBack_32 : decode cX7_minutesBack 32 = .ok (.ifCond .ne 9, 3) := by decide +kernel
theorem dX7_minutesBack_35 : decode cX7_minutesBack 35 = .ok (.iinc 1 1, 3) := by decide +kernel
theorem dX7_minutesBack_38 : decode cX7_minutesBack 38 = .ok (.goto (-36), 3) := by decide +kernel
theorem dX7_minutesBack_41 : decode cX7_minutesBack 41 = .ok (.iload_n 1, 1) := by decide +kernel
theorem dX7_minutesBack_42 : decode cX7_minutesBack 42 = .ok (.iconst 3, 1) := by decide +kernel
theorem dX7_minutesBack_43 : decode cX7_minutesBack 43 = .ok (.iadd, 1) := by decide +kernel
theorem dX7_minutesBack_44 : decode cX7_minutesBack 44 = .ok (.ireturn, 1) := by decide +kernel
theorem dX7_minutesToMeet_0 : decode cX7_minutesToMeet 0 = .ok (.iconst 0, 1) := by decide +kernel
theorem dX7_minutesToMeet_1 : decode cX7_minutesToMeet 1 = .ok (.istore_n 3, 1) := by decide +kernel
theorem dX7_minutesToMeet_2 : decode cX7_minutesToMeet 2 = .ok (.iload_n 3, 1) := by decide +kernel
theorem dX7_minutesToMeet_3 : decode cX7_minutesToMeet 3 = .ok (.bipush 30, 2) := by decide +kernel
theorem dX7_minutesToMeet_5 : decode cX7_minutesToMeet 5 = .ok (.if_icmp .gt 38, 3) := by decide +kernel
theorem dX7_minutesToMeet_8 : decode cX7_minutesToMeet 8 = .ok (.aload_n 0, 1) := by decide +kernel
theorem dX7_minutesToMeet_9 : decode cX7_minutesToMeet 9 = .ok (.aload_n 0, 1) := by decide +kernel
theorem dX7_minutesToMeet_10 : decode cX7_minutesToMeet 10 = .ok (.getfield 28, 3) := by decide +kernel
theorem dX7_minutesToMeet_13 : decode cX7_minutesToMeet 13 = .ok (.iload_n 3, 1) := by decide +kernel
theorem dX7_minutesToMeet_14 : decode cX7_minutesToMeet 14 = .ok (.imul, 1) := by decide +kernel
theorem dX7_minutesToMeet_15 : decode cX7_minutesToMeet 15 = .ok (.aload_n 1, 1) := by decide +kernel
theorem dX7_minutesToMeet_16 : decode cX7_minutesToMeet 16 = .ok (.iload_n 2, 1) := by decide +kernel
theorem dX7_minutesToMeet_17 : decode cX7_minutesToMeet 17 = .ok (.iload_n 3, 1) := by decide +kernel
theorem dX7_minutesToMeet_18 : decode cX7_minutesToMeet 18 = .ok (.iadd, 1) := by decide +kernel
theorem dX7_minutesToMeet_19 : decode cX7_minutesToMeet 19 = .ok (.invokevirtual 69, 3) := by decide +kernel
theorem dX7_minutesToMeet_22 : decode cX7_minutesToMeet 22 = .ok (.aload_n 1, 1) := by decide +kernel
theorem dX7_minutesToMeet_23 : decode cX7_minutesToMeet 23 = .ok (.iload_n 2, 1) := by decide +kernel
theorem dX7_minutesToMeet_24 : decode cX7_minutesToMeet 24 = .ok (.iload_n 3, 1) := by decide +kernel
theorem dX7_minutesToMeet_25 : decode cX7_minutesToMeet 25 = .ok (.iadd, 1) := by decide +kernel
theorem dX7_minutesToMeet_26 : decode cX7_minutesToMeet 26 = .ok (.invokevirtual 72, 3) := by decide +kernel
theorem dX7_minutesToMeet_29 : decode cX7_minutesToMeet 29 = .ok (.invokevirtual 57, 3) := by decide +kernel
theorem dX7_minutesToMeet_32 : decode cX7_minutesToMeet 32 = .ok (.ifCond .eq 5, 3) := by decide +kernel
theorem dX7_minutesToMeet_35 : decode cX7_minutesToMeet 35 = .ok (.iload_n 3, 1) := by decide +kernel
theorem dX7_minutesToMeet_36 : decode cX7_minutesToMeet 36 = .ok (.ireturn, 1) := by decide +kernel
theorem dX7_minutesToMeet_37 : decode cX7_minutesToMeet 37 = .ok (.iinc 3 1, 3) := by decide +kernel
theorem dX7_minutesToMeet_40 : decode cX7_minutesToMeet 40 = .ok (.goto (-38), 3) := by decide +kernel
theorem dX7_minutesToMeet_43 : decode cX7_minutesToMeet 43 = .ok (.iconst (-1), 1) := by decide +kernel
theorem dX7_minutesToMeet_44 : decode cX7_minutesToMeet 44 = .ok (.ireturn, 1) := by decide +kernel
theorem dX7_tell_0 : decode cX7_tell 0 = .ok (.iload_n 1, 1) := by decide +kernel
theorem dX7_tell_1 : decode cX7_tell 1 = .ok (.tableswitch 96 0 8 #[51, 56, 61, 66, 71, 76, 81, 86, 91], 51) := by decide +kernel
theorem dX7_tell_52 : decode cX7_tell 52 = .ok (.aload_n 0, 1) := by decide +kernel
theorem dX7_tell_53 : decode cX7_tell 53 = .ok (.getfield 16, 3) := by decide +kernel
theorem dX7_tell_56 : decode cX7_tell 56 = .ok (.ireturn, 1) := by decide +kernel
theorem dX7_tell_57 : decode cX7_tell 57 = .ok (.aload_n 0, 1) := by decide +kernel
theorem dX7_tell_58 : decode cX7_tell 58 = .ok (.getfield 25, 3) := by decide +kernel
theorem dX7_tell_61 : decode cX7_tell 61 = .ok (.ireturn, 1) := by decide +kernel
theorem dX7_tell_62 : decode cX7_tell 62 = .ok (.aload_n 0, 1) := by decide +kernel
theorem dX7_tell_63 : decode cX7_tell 63 = .ok (.getfield 37, 3) := by decide +kernel
theorem dX7_tell_66 : decode cX7_tell 66 = .ok (.ireturn, 1) := by decide +kernel
theorem dX7_tell_67 : decode cX7_tell 67 = .ok (.aload_n 0, 1) := by decide +kernel
theorem dX7_tell_68 : decode cX7_tell 68 = .ok (.getfield 46, 3) := by decide +kernel
theorem dX7_tell_71 : decode cX7_tell 71 = .ok (.ireturn, 1) := by decide +kernel
theorem dX7_tell_72 : decode cX7_tell 72 = .ok (.aload_n 0, 1) := by decide +kernel
theorem dX7_tell_73 : decode cX7_tell 73 = .ok (.getfield 47, 3) := by decide +kernel
theorem dX7_tell_76 : decode cX7_tell 76 = .ok (.ireturn, 1) := by decide +kernel
theorem dX7_tell_77 : decode cX7_tell 77 = .ok (.aload_n 0, 1) := by decide +kernel
theorem dX7_tell_78 : decode cX7_tell 78 = .ok (.getfield 40, 3) := by decide +kernel
theorem dX7_tell_81 : decode cX7_tell 81 = .ok (.ireturn, 1) := by decide +kernel
theorem dX7_tell_82 : decode cX7_tell 82 = .ok (.aload_n 0, 1) := by decide +kernel
theorem dX7_tell_83 : decode cX7_tell 83 = .ok (.invokevirtual 75, 3) := by decide +kernel
theorem dX7_tell_86 : decode cX7_tell 86 = .ok (.ireturn, 1) := by decide +kernel
theorem dX7_tell_87 : decode cX7_tell 87 = .ok (.aload_n 0, 1) := by decide +kernel
theorem dX7_tell_88 : decode cX7_tell 88 = .ok (.getfield 43, 3) := by decide +kernel
theorem dX7_tell_91 : decode cX7_tell 91 = .ok (.ireturn, 1) := by decide +kernel
theorem dX7_tell_92 : decode cX7_tell 92 = .ok (.aload_n 0, 1) := by decide +kernel
theorem dX7_tell_93 : decode cX7_tell 93 = .ok (.invokevirtual 79, 3) := by decide +kernel
theorem dX7_tell_96 : decode cX7_tell 96 = .ok (.ireturn, 1) := by decide +kernel
theorem dX7_tell_97 : decode cX7_tell 97 = .ok (.aload_n 0, 1) := by decide +kernel
theorem dX7_tell_98 : decode cX7_tell 98 = .ok (.getfield 82, 3) := by decide +kernel
theorem dX7_tell_101 : decode cX7_tell 101 = .ok (.ireturn, 1) := by decide +kernel
theorem dX8_init_0 : decode cX8_init 0 = .ok (.aload_n 0, 1) := by decide +kernel
theorem dX8_init_1 : decode cX8_init 1 = .ok (.invokespecial 1, 3) := by decide +kernel
theorem dX8_init_4 : decode cX8_init 4 = .ok (.return_, 1) := by decide +kernel
theorem dX9_init_0 : decode cX9_init 0 = .ok (.aload_n 0, 1) := by decide +kernel
theorem dX9_init_1 : decode cX9_init 1 = .ok (.iload_n 1, 1) := by decide +kernel
theorem dX9_init_2 : decode cX9_init 2 = .ok (.iload_n 2, 1) := by decide +kernel
theorem dX9_init_3 : decode cX9_init 3 = .ok (.invokespecial 1, 3) := by decide +kernel
theorem dX9_init_6 : decode cX9_init 6 = .ok (.aload_n 0, 1) := by decide +kernel
theorem dX9_init_7 : decode cX9_init 7 = .ok (.iload_n 3, 1) := by decide +kernel
theorem dX9_init_8 : decode cX9_init 8 = .ok (.putfield 7, 3) := by decide +kernel
theorem dX9_init_11 : decode cX9_init 11 = .ok (.return_, 1) := by decide +kernel
theorem dX10_init_0 : decode cX10_init 0 = .ok (.aload_n 0, 1) := by decide +kernel
theorem dX10_init_1 : decode cX10_init 1 = .ok (.aload_n 2, 1) := by decide +kernel
theorem dX10_init_2 : decode cX10_init 2 = .ok (.getfield 1, 3) := by decide +kernel
theorem dX10_init_5 : decode cX10_init 5 = .ok (.aload_n 2, 1) := by decide +kernel
theorem dX10_init_6 : decode cX10_init 6 = .ok (.getfield 7, 3) := by decide +kernel
theorem dX10_init_9 : decode cX10_init 9 = .ok (.invokespecial 10, 3) := by decide +kernel
theorem dX10_init_12 : decode cX10_init 12 = .ok (.aload_n 0, 1) := by decide +kernel
theorem dX10_init_13 : decode cX10_init 13 = .ok (.iload_n 1, 1) := by decide +kernel
theorem dX10_init_14 : decode cX10_init 14 = .ok (.putfield 16, 3) := by decide +kernel
theorem dX10_init_17 : decode cX10_init 17 = .ok (.aload_n 0, 1) := by decide +kernel
theorem dX10_init_18 : decode cX10_init 18 = .ok (.aload_n 2, 1) := by decide +kernel
theorem dX10_init_19 : decode cX10_init 19 = .ok (.getfield 21, 3) := by decide +kernel
theorem dX10_init_22 : decode cX10_init 22 = .ok (.putfield 24, 3) := by decide +kernel
theorem dX10_init_25 : decode cX10_init 25 = .ok (.aload_n 0, 1) := by decide +kernel
theorem dX10_init_26 : decode cX10_init 26 = .ok (.aload_n 2, 1) := by decide +kernel
theorem dX10_init_27 : decode cX10_init 27 = .ok (.getfield 27, 3) := by decide +kernel
theorem dX10_init_30 : decode cX10_init 30 = .ok (.putfield 30, 3) := by decide +kernel
theorem dX10_init_33 : decode cX10_init 33 = .ok (.aload_n 0, 1) := by decide +kernel
theorem dX10_init_34 : decode cX10_init 34 = .ok (.iconst 1, 1) := by decide +kernel
theorem dX10_init_35 : decode cX10_init 35 = .ok (.putfield 31, 3) := by decide +kernel
theorem dX10_init_38 : decode cX10_init 38 = .ok (.aload_n 0, 1) := by decide +kernel
theorem dX10_init_39 : decode cX10_init 39 = .ok (.iconst 1, 1) := by decide +kernel
theorem dX10_init_40 : decode cX10_init 40 = .ok (.putfield 34, 3) := by decide +kernel
theorem dX10_init_43 : decode cX10_init 43 = .ok (.return_, 1) := by decide +kernel
theorem dX10_xAt_0 : decode cX10_xAt 0 = .ok (.aload_n 0, 1) := by decide +kernel
theorem dX10_xAt_1 : decode cX10_xAt 1 = .ok (.getfield 38, 3) := by decide +kernel
theorem dX10_xAt_4 : decode cX10_xAt 4 = .ok (.aload_n 0, 1) := by decide +kernel
theorem dX10_xAt_5 : decode cX10_xAt 5 = .ok (.getfield 39, 3) := by decide +kernel
theorem dX10_xAt_8 : decode cX10_xAt 8 = .ok (.iload_n 1, 1) := by decide +kernel
theorem dX10_xAt_9 : decode cX10_xAt 9 = .ok (.aload_n 0, 1) := by decide +kernel
theorem dX10_xAt_10 : decode cX10_xAt 10 = .ok (.getfield 24, 3) := by decide +kernel
theorem dX10_xAt_13 : decode cX10_xAt 13 = .ok (.isub, 1) := by decide +kernel
theorem dX10_xAt_14 : decode cX10_xAt 14 = .ok (.imul, 1) := by decide +kernel
theorem dX10_xAt_15 : decode cX10_xAt 15 = .ok (.bipush 10, 2) := by decide +kernel
theorem dX10_xAt_17 : decode cX10_xAt 17 = .ok (.idiv, 1) := by decide +kernel
theorem dX10_xAt_18 : decode cX10_xAt 18 = .ok (.iadd, 1) := by decide +kernel
theorem dX10_xAt_19 : decode cX10_xAt 19 = .ok (.invokestatic 42, 3) := by decide +kernel
theorem dX10_xAt_22 : decode cX10_xAt 22 = .ok (.ireturn, 1) := by decide +kernel
theorem dX10_yAt_0 : decode cX10_yAt 0 = .ok (.aload_n 0, 1) := by decide +kernel
theorem dX10_yAt_1 : decode cX10_yAt 1 = .ok (.getfield 48, 3) := by decide +kernel
theorem dX10_yAt_4 : decode cX10_yAt 4 = .ok (.aload_n 0, 1) := by decide +kernel
theorem dX10_yAt_5 : decode cX10_yAt 5 = .ok (.getfield 49, 3) := by decide +kernel
theorem dX10_yAt_8 : decode cX10_yAt 8 = .ok (.iload_n 1, 1) := by decide +kernel
theorem dX10_yAt_9 : decode cX10_yAt 9 = .ok (.aload_n 0, 1) := by decide +kernel
theorem dX10_yAt_10 : decode cX10_yAt 10 = .ok (.getfield 24, 3) := by decide +kernel
theorem dX10_yAt_13 : decode cX10_yAt 13 = .ok (.isub, 1) := by decide +kernel
theorem dX10_yAt_14 : decode cX10_yAt 14 = .ok (.imul, 1) := by decide +kernel
theorem dX10_yAt_15 : decode cX10_yAt 15 = .ok (.bipush 10, 2) := by decide +kernel
theorem dX10_yAt_17 : decode cX10_yAt 17 = .ok (.idiv, 1) := by decide +kernel
theorem dX10_yAt_18 : decode cX10_yAt 18 = .ok (.iadd, 1) := by decide +kernel
theorem dX10_yAt_19 : decode cX10_yAt 19 = .ok (.invokestatic 42, 3) := by decide +kernel
theorem dX10_yAt_22 : decode cX10_yAt 22 = .ok (.ireturn, 1) := by decide +kernel
theorem dX10_take_0 : decode cX10_take 0 = .ok (.aload_n 1, 1) := by decide +kernel
theorem dX10_take_1 : decode cX10_take 1 = .ok (.getfield 21, 3) := by decide +kernel
theorem dX10_take_4 : decode cX10_take 4 = .ok (.aload_n 0, 1) := by decide +kernel
theorem dX10_take_5 : decode cX10_take 5 = .ok (.getfield 24, 3) := by decide +kernel
theorem dX10_take_8 : decode cX10_take 8 = .ok (.isub, 1) := by decide +kernel
theorem dX10_take_9 : decode cX10_take 9 = .ok (.istore_n 2, 1) := by decide +kernel
theorem dX10_take_10 : decode cX10_take 10 = .ok (.iload_n 2, 1) := by decide +kernel
theorem dX10_take_11 : decode cX10_take 11 = .ok (.ifCond .le 87, 3) := by decide +kernel
theorem dX10_take_14 : decode cX10_take 14 = .ok (.aload_n 0, 1) := by decide +kernel
theorem dX10_take_15 : decode cX10_take 15 = .ok (.aload_n 0, 1) := by decide +kernel
theorem dX10_take_16 : decode cX10_take 16 = .ok (.aload_n 0, 1) := by decide +kernel
theorem dX10_take_17 : decode cX10_take 17 = .ok (.getfield 39, 3) := by decide +kernel
theorem dX10_take_20 : decode cX10_take 20 = .ok (.bipush 10, 2) := by decide +kernel
theorem dX10_take_22 : decode cX10_take 22 = .ok (.aload_n 1, 1) := by decide +kernel
theorem dX10_take_23 : decode cX10_take 23 = .ok (.getfield 1, 3) := by decide +kernel
theorem dX10_take_26 : decode cX10_take 26 = .ok (.aload_n 0, 1) := by decide +kernel
theorem dX10_take_27 : decode cX10_take 27 = .ok (.getfield 38, 3) := by decide +kernel
theorem dX10_take_30 : decode cX10_take 30 = .ok (.isub, 1) := by decide +kernel
theorem dX10_take_31 : decode cX10_take 31 = .ok (.imul, 1) := by decide +kernel
theorem dX10_take_32 : decode cX10_take 32 = .ok (.iload_n 2, 1) := by decide +kernel
theorem dX10_take_33 : decode cX10_take 33 = .ok (.idiv, 1) := by decide +kernel
theorem dX10_take_34 : decode cX10_take 34 = .ok (.invokevirtual 52, 3) := by decide +kernel
theorem dX10_take_37 : decode cX10_take 37 = .ok (.putfield 39, 3) := by decide +kernel
theorem dX10_take_40 : decode cX10_take 40 = .ok (.aload_n 0, 1) := by decide +kernel
theorem dX10_take_41 : decode cX10_take 41 = .ok (.aload_n 0, 1) := by decide +kernel
theorem dX10_take_42 : decode cX10_take 42 = .ok (.aload_n 0, 1) := by decide +kernel
theorem dX10_take_43 : decode cX10_take 43 = .ok (.getfield 49, 3) := by decide +kernel
theorem dX10_take_46 : decode cX10_take 46 = .ok (.bipush 10, 2) := by decide +kernel
theorem dX10_take_48 : decode cX10_take 48 = .ok (.aload_n 1, 1) := by decide +kernel
theorem dX10_take_49 : decode cX10_take 49 = .ok (.getfield 7, 3) := by decide +kernel
theorem dX10_take_52 : decode cX10_take 52 = .ok (.aload_n 0, 1) := by decide +kernel
theorem dX10_take_53 : decode cX10_take 53 = .ok (.getfield 48, 3) := by decide +kernel
theorem dX10_take_56 : decode cX10_take 56 = .ok (.isub, 1) := by decide +kernel
theorem dX10_take_57 : decode cX10_take 57 = .ok (.imul, 1) := by decide +kernel
theorem dX10_take_58 : decode cX10_take 58 = .ok (.iload_n 2, 1) := by decide +kernel
theorem dX10_take_59 : decode cX10_take 59 = .ok (.idiv, 1) := by decide +kernel
theorem dX10_take_60 : decode cX10_take 60 = .ok (.invokevirtual 52, 3) := by decide +kernel
theorem dX10_take_63 : decode cX10_take 63 = .ok (.putfield 49, 3) := by decide +kernel
theorem dX10_take_66 : decode cX10_take 66 = .ok (.aload_n 0, 1) := by decide +kernel
theorem dX10_take_67 : decode cX10_take 67 = .ok (.iconst 1, 1) := by decide +kernel
theorem dX10_take_68 : decode cX10_take 68 = .ok (.putfield 56, 3) := by decide +kernel
theorem dX10_take_71 : decode cX10_take 71 = .ok (.aload_n 0, 1) := by decide +kernel
theorem dX10_take_72 : decode cX10_take 72 = .ok (.aload_n 1, 1) := by decide +kernel
theorem dX10_take_73 : decode cX10_take 73 = .ok (.getfield 1, 3) := by decide +kernel
theorem dX10_take_76 : decode cX10_take 76 = .ok (.putfield 38, 3) := by decide +kernel
theorem dX10_take_79 : decode cX10_take 79 = .ok (.aload_n 0, 1) := by decide +kernel
theorem dX10_take_80 : decode cX10_take 80 = .ok (.aload_n 1, 1) := by decide +kernel
theorem dX10_take_81 : decode cX10_take 81 = .ok (.getfield 7, 3) := by decide +kernel
theorem dX10_take_84 : decode cX10_take 84 = .ok (.putfield 48, 3) := by decide +kernel
theorem dX10_take_87 : decode cX10_take 87 = .ok (.aload_n 0, 1) := by decide +kernel
theorem dX10_take_88 : decode cX10_take 88 = .ok (.aload_n 1, 1) := by decide +kernel
theorem dX10_take_89 : decode cX10_take 89 = .ok (.getfield 21, 3) := by decide +kernel
theorem dX10_take_92 : decode cX10_take 92 = .ok (.putfield 24, 3) := by decide +kernel
theorem dX10_take_95 : decode cX10_take 95 = .ok (.goto 33, 3) := by decide +kernel
theorem dX10_take_98 : decode cX10_take 98 = .ok (.aload_n 0, 1) := by decide +kernel
theorem dX10_take_99 : decode cX10_take 99 = .ok (.aload_n 0, 1) := by decide +kernel
theorem dX10_take_100 : decode cX10_take 100 = .ok (.getfield 38, 3) := by decide +kernel
theorem dX10_take_103 : decode cX10_take 103 = .ok (.aload_n 1, 1) := by decide +kernel
theorem dX10_take_104 : decode cX10_take 104 = .ok (.getfield 1, 3) := by decide +kernel
theorem dX10_take_107 : decode cX10_take 107 = .ok (.iadd, 1) := by decide +kernel
theorem dX10_take_108 : decode cX10_take 108 = .ok (.iconst 2, 1) := by decide +kernel
theorem dX10_take_109 : decode cX10_take 109 = .ok (.idiv, 1) := by decide +kernel
theorem dX10_take_110 : decode cX10_take 110 = .ok (.putfield 38, 3) := by decide +kernel
theorem dX10_take_113 : decode cX10_take 113 = .ok (.aload_n 0, 1) := by decide +kernel
theorem dX10_take_114 : decode cX10_take 114 = .ok (.aload_n 0, 1) := by decide +kernel
theorem dX10_take_115 : decode cX10_take 115 = .ok (.getfield 48, 3) := by decide +kernel
theorem dX10_take_118 : decode cX10_take 118 = .ok (.aload_n 1, 1) := by decide +kernel
theorem dX10_take_119 : decode cX10_take 119 = .ok (.getfield 7, 3) := by decide +kernel
theorem dX10_take_122 : decode cX10_take 122 = .ok (.iadd, 1) := by decide +kernel
theorem dX10_take_123 : decode cX10_take 123 = .ok (.iconst 2, 1) := by decide +kernel
theorem dX10_take_124 : decode cX10_take 124 = .ok (.idiv, 1) := by decide +kernel
theorem dX10_take_125 : decode cX10_take 125 = .ok (.putfield 48, 3) := by decide +kernel
theorem dX10_take_128 : decode cX10_take 128 = .ok (.aload_n 0, 1) := by decide +kernel
theorem dX10_take_129 : decode cX10_take 129 = .ok (.aload_n 0, 1) := by decide +kernel
theorem dX10_take_130 : decode cX10_take 130 = .ok (.getfield 30, 3) := by decide +kernel
theorem dX10_take_133 : decode cX10_take 133 = .ok (.aload_n 1, 1) := by decide +kernel
theorem dX10_take_134 : decode cX10_take 134 = .ok (.getfield 27, 3) := by decide +kernel
theorem dX10_take_137 : decode cX10_take 137 = .ok (.invokestatic 59, 3) := by decide +kernel
theorem dX10_take_140 : decode cX10_take 140 = .ok (.putfield 30, 3) := by decide +kernel
theorem dX10_take_143 : decode cX10_take 143 = .ok (.aload_n 0, 1) := by decide +kernel
theorem dX10_take_144 : decode cX10_take 144 = .ok (.dup, 1) := by decide +kernel
theorem dX10_take_145 : decode cX10_take 145 = .ok (.getfield 31, 3) := by decide +kernel
theorem dX10_take_148 : decode cX10_take 148 = .ok (.iconst 1, 1) := by decide +kernel
theorem dX10_take_149 : decode cX10_take 149 = .ok (.iadd, 1) := by decide +kernel
theorem dX10_take_150 : decode cX10_take 150 = .ok (.putfield 31, 3) := by decide +kernel
theorem dX10_take_153 : decode cX10_take 153 = .ok (.return_, 1) := by decide +kernel
theorem dX10_courseBy_0 : decode cX10_courseBy 0 = .ok (.aload_n 0, 1) := by decide +kernel
theorem dX10_courseBy_1 : decode cX10_courseBy 1 = .ok (.getfield 56, 3) := by decide +kernel
theorem dX10_courseBy_4 : decode cX10_courseBy 4 = .ok (.ifCond .eq 11, 3) := by decide +kernel
theorem dX10_courseBy_7 : decode cX10_courseBy 7 = .ok (.iload_n 2, 1) := by decide +kernel
theorem dX10_courseBy_8 : decode cX10_courseBy 8 = .ok (.iload_n 1, 1) := by decide +kernel
theorem dX10_courseBy_9 : decode cX10_courseBy 9 = .ok (.iadd, 1) := by decide +kernel
theorem dX10_courseBy_10 : decode cX10_courseBy 10 = .ok (.iconst 2, 1) := by decide +kernel
theorem dX10_courseBy_11 : decode cX10_courseBy 11 = .ok (.idiv, 1) := by decide +kernel
theorem dX10_courseBy_12 : decode cX10_courseBy 12 = .ok (.goto 4, 3) := by decide +kernel
theorem dX10_courseBy_15 : decode cX10_courseBy 15 = .ok (.iload_n 2, 1) := by decide +kernel
theorem dX10_courseBy_16 : decode cX10_courseBy 16 = .ok (.ireturn, 1) := by decide +kernel
theorem dX10_tell_0 : decode cX10_tell 0 = .ok (.iload_n 1, 1) := by decide +kernel
theorem dX10_tell_1 : decode cX10_tell 1 = .ok (.tableswitch 78 0 6 #[43, 48, 53, 58, 63, 68, 73], 43) := by decide +kernel
theorem dX10_tell_44 : decode cX10_tell 44 = .ok (.aload_n 0, 1) := by decide +kernel
theorem dX10_tell_45 : decode cX10_tell 45 = .ok (.getfield 38, 3) := by decide +kernel
theorem dX10_tell_48 : decode cX10_tell 48 = .ok (.ireturn, 1) := by decide +kernel
theorem dX10_tell_49 : decode cX10_tell 49 = .ok (.aload_n 0, 1) := by decide +kernel
theorem dX10_tell_50 : decode cX10_tell 50 = .ok (.getfield 48, 3) := by decide +kernel
theorem dX10_tell_53 : decode cX10_tell 53 = .ok (.ireturn, 1) := by decide +kernel
theorem dX10_tell_54 : decode cX10_tell 54 = .ok (.aload_n 0, 1) := by decide +kernel
theorem dX10_tell_55 : decode cX10_tell 55 = .ok (.getfield 24, 3) := by decide +kernel
theorem dX10_tell_58 : decode cX10_tell 58 = .ok (.ireturn, 1) := by decide +kernel
theorem dX10_tell_59 : decode cX10_tell 59 = .ok (.aload_n 0, 1) := by decide +kernel
theorem dX10_tell_60 : decode cX10_tell 60 = .ok (.getfield 39, 3) := by decide +kernel
theorem dX10_tell_63 : decode cX10_tell 63 = .ok (.ireturn, 1) := by decide +kernel
theorem dX10_tell_64 : decode cX10_tell 64 = .ok (.aload_n 0, 1) := by decide +kernel
theorem dX10_tell_65 : decode cX10_tell 65 = .ok (.getfield 49, 3) := by decide +kernel
theorem dX10_tell_68 : decode cX10_tell 68 = .ok (.ireturn, 1) := by decide +kernel
theorem dX10_tell_69 : decode cX10_tell 69 = .ok (.aload_n 0, 1) := by decide +kernel
theorem dX10_tell_70 : decode cX10_tell 70 = .ok (.getfield 30, 3) := by decide +kernel
theorem dX10_tell_73 : decode cX10_tell 73 = .ok (.ireturn, 1) := by decide +kernel
theorem dX10_tell_74 : decode cX10_tell 74 = .ok (.aload_n 0, 1) := by decide +kernel
theorem dX10_tell_75 : decode cX10_tell 75 = .ok (.getfield 31, 3) := by decide +kernel
theorem dX10_tell_78 : decode cX10_tell 78 = .ok (.ireturn, 1) := by decide +kernel
theorem dX10_tell_79 : decode cX10_tell 79 = .ok (.aload_n 0, 1) := by decide +kernel
theorem dX10_tell_80 : decode cX10_tell 80 = .ok (.getfield 34, 3) := by decide +kernel
theorem dX10_tell_83 : decode cX10_tell 83 = .ok (.ifCond .eq 7, 3) := by decide +kernel
theorem dX10_tell_86 : decode cX10_tell 86 = .ok (.iconst 1, 1) := by decide +kernel
theorem dX10_tell_87 : decode cX10_tell 87 = .ok (.goto 4, 3) := by decide +kernel
theorem dX10_tell_90 : decode cX10_tell 90 = .ok (.iconst 0, 1) := by decide +kernel
theorem dX10_tell_91 : decode cX10_tell 91 = .ok (.ireturn, 1) := by decide +kernel
