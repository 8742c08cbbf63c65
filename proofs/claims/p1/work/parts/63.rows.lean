theorem ml_11 : xe_mL 11 = 1 := rfl
theorem ml_12 : xe_mL 12 = 3 := rfl
theorem ml_13 : xe_mL 13 = 2 := rfl
theorem ml_28 : xe_mL 28 = 3 := rfl
theorem ml_30 : xe_mL 30 = 2 := rfl
theorem ml_72 : xe_mL 72 = 3 := rfl
theorem ml_90 : xe_mL 90 = 1 := rfl
theorem ml_91 : xe_mL 91 = 3 := rfl
theorem ml_92 : xe_mL 92 = 1 := rfl
theorem ml_111 : xe_mL 111 = 3 := rfl
theorem ml_113 : xe_mL 113 = 2 := rfl
theorem ml_180 : xe_mL 180 = 2 := rfl
theorem ml_196 : xe_mL 196 = 8 := rfl
theorem mr_11 : xe_mR 11 = some .boolean := rfl
theorem mr_12 : xe_mR 12 = some .boolean := rfl
theorem mr_13 : xe_mR 13 = some .int := rfl
theorem mr_28 : xe_mR 28 = some .int := rfl
theorem mr_30 : xe_mR 30 = some .int := rfl
theorem mr_72 : xe_mR 72 = some .int := rfl
theorem mr_90 : xe_mR 90 = some .boolean := rfl
theorem mr_91 : xe_mR 91 = some .int := rfl
theorem mr_92 : xe_mR 92 = none := rfl
theorem mr_111 : xe_mR 111 = some .int := rfl
theorem mr_113 : xe_mR 113 = some .int := rfl
theorem mr_180 : xe_mR 180 = some .int := rfl
theorem mr_196 : xe_mR 196 = some .boolean := rfl
theorem kc_11_0 : xe_code 11 0 = some (.iload_n 0, []) := by decide +kernel
theorem kc_11_1 : xe_code 11 1 = some (.iconst 0, []) := by decide +kernel
theorem kc_11_2 : xe_code 11 2 = some (.iconst 5, []) := by decide +kernel
theorem kc_11_3 : xe_code 11 3 = some (.invokestatic 173, [12, 3, 1152, 12]) := by decide +kernel
theorem kc_11_6 : xe_code 11 6 = some (.ireturn, []) := by decide +kernel
theorem kc_12_0 : xe_code 12 0 = some (.iload_n 0, []) := by decide +kernel
theorem kc_12_1 : xe_code 12 1 = some (.iload_n 1, []) := by decide +kernel
theorem kc_12_2 : xe_code 12 2 = some (.if_icmp .lt 12, [14]) := by decide +kernel
theorem kc_12_5 : xe_code 12 5 = some (.iload_n 0, []) := by decide +kernel
theorem kc_12_6 : xe_code 12 6 = some (.iload_n 2, []) := by decide +kernel
theorem kc_12_7 : xe_code 12 7 = some (.if_icmp .gt 7, [14]) := by decide +kernel
theorem kc_12_10 : xe_code 12 10 = some (.iconst 1, []) := by decide +kernel
theorem kc_12_11 : xe_code 12 11 = some (.goto 4, [15]) := by decide +kernel
theorem kc_12_14 : xe_code 12 14 = some (.iconst 0, []) := by decide +kernel
theorem kc_12_15 : xe_code 12 15 = some (.ireturn, []) := by decide +kernel
theorem kc_13_0 : xe_code 13 0 = some (.aload_n 0, []) := by decide +kernel
theorem kc_13_1 : xe_code 13 1 = some (.getfield 87, [12, 29, 976]) := by decide +kernel
theorem kc_13_4 : xe_code 13 4 = some (.iload_n 1, []) := by decide +kernel
theorem kc_13_5 : xe_code 13 5 = some (.ineg, []) := by decide +kernel
theorem kc_13_6 : xe_code 13 6 = some (.dup2, []) := by decide +kernel
theorem kc_13_7 : xe_code 13 7 = some (.iaload, []) := by decide +kernel
theorem kc_13_8 : xe_code 13 8 = some (.iconst 1, []) := by decide +kernel
theorem kc_13_9 : xe_code 13 9 = some (.iadd, []) := by decide +kernel
theorem kc_13_10 : xe_code 13 10 = some (.iastore, []) := by decide +kernel
theorem kc_13_11 : xe_code 13 11 = some (.iload_n 1, []) := by decide +kernel
theorem kc_13_12 : xe_code 13 12 = some (.ireturn, []) := by decide +kernel
theorem kc_28_0 : xe_code 28 0 = some (.aload_n 0, []) := by decide +kernel
theorem kc_28_1 : xe_code 28 1 = some (.iconst 0, []) := by decide +kernel
theorem kc_28_2 : xe_code 28 2 = some (.putfield 169, [12, 0, 947]) := by decide +kernel
theorem kc_28_5 : xe_code 28 5 = some (.iload_n 1, []) := by decide +kernel
theorem kc_28_6 : xe_code 28 6 = some (.iconst 1, []) := by decide +kernel
theorem kc_28_7 : xe_code 28 7 = some (.if_icmp .ge 10, [17]) := by decide +kernel
theorem kc_28_10 : xe_code 28 10 = some (.aload_n 0, []) := by decide +kernel
theorem kc_28_11 : xe_code 28 11 = some (.bipush (-4), []) := by decide +kernel
theorem kc_28_13 : xe_code 28 13 = some (.invokevirtual 188, [13, 1, 1155, 12]) := by decide +kernel
theorem kc_28_16 : xe_code 28 16 = some (.ireturn, []) := by decide +kernel
theorem kc_28_17 : xe_code 28 17 = some (.iload_n 1, []) := by decide +kernel
theorem kc_28_18 : xe_code 28 18 = some (.bipush 50, []) := by decide +kernel
theorem kc_28_20 : xe_code 28 20 = some (.if_icmp .le 10, [30]) := by decide +kernel
theorem kc_28_23 : xe_code 28 23 = some (.aload_n 0, []) := by decide +kernel
theorem kc_28_24 : xe_code 28 24 = some (.bipush (-6), []) := by decide +kernel
theorem kc_28_26 : xe_code 28 26 = some (.invokevirtual 188, [13, 1, 1155, 12]) := by decide +kernel
theorem kc_28_29 : xe_code 28 29 = some (.ireturn, []) := by decide +kernel
theorem kc_28_30 : xe_code 28 30 = some (.aload_n 0, []) := by decide +kernel
theorem kc_28_31 : xe_code 28 31 = some (.getfield 53, [12, 16, 963]) := by decide +kernel
theorem kc_28_34 : xe_code 28 34 = some (.istore_n 2, []) := by decide +kernel
theorem kc_28_35 : xe_code 28 35 = some (.aload_n 0, []) := by decide +kernel
theorem kc_28_36 : xe_code 28 36 = some (.iload_n 1, []) := by decide +kernel
theorem kc_28_37 : xe_code 28 37 = some (.putfield 53, [12, 16, 963]) := by decide +kernel
theorem kc_28_40 : xe_code 28 40 = some (.aload_n 0, []) := by decide +kernel
theorem kc_28_41 : xe_code 28 41 = some (.iconst 0, []) := by decide +kernel
theorem kc_28_42 : xe_code 28 42 = some (.putfield 181, [12, 41, 988]) := by decide +kernel
theorem kc_28_45 : xe_code 28 45 = some (.iload_n 2, []) := by decide +kernel
theorem kc_28_46 : xe_code 28 46 = some (.ireturn, []) := by decide +kernel
theorem kc_30_0 : xe_code 30 0 = some (.aload_n 0, []) := by decide +kernel
theorem kc_30_1 : xe_code 30 1 = some (.iconst 0, []) := by decide +kernel
theorem kc_30_2 : xe_code 30 2 = some (.putfield 169, [12, 0, 947]) := by decide +kernel
theorem kc_30_5 : xe_code 30 5 = some (.iload_n 1, []) := by decide +kernel
theorem kc_30_6 : xe_code 30 6 = some (.invokestatic 185, [11, 1, 1149, 12]) := by decide +kernel
theorem kc_30_9 : xe_code 30 9 = some (.ifCond .eq 12, [21]) := by decide +kernel
theorem kc_30_12 : xe_code 30 12 = some (.aload_n 0, []) := by decide +kernel
theorem kc_30_13 : xe_code 30 13 = some (.getfield 25, [12, 7, 954]) := by decide +kernel
theorem kc_30_16 : xe_code 30 16 = some (.iload_n 1, []) := by decide +kernel
theorem kc_30_17 : xe_code 30 17 = some (.iaload, []) := by decide +kernel
theorem kc_30_18 : xe_code 30 18 = some (.goto 8, [26]) := by decide +kernel
theorem kc_30_21 : xe_code 30 21 = some (.aload_n 0, []) := by decide +kernel
theorem kc_30_22 : xe_code 30 22 = some (.iconst (-1), []) := by decide +kernel
theorem kc_30_23 : xe_code 30 23 = some (.invokevirtual 188, [13, 1, 1155, 12]) := by decide +kernel
theorem kc_30_26 : xe_code 30 26 = some (.ireturn, []) := by decide +kernel
theorem kc_72_0 : xe_code 72 0 = some (.aload_n 0, []) := by decide +kernel
theorem kc_72_1 : xe_code 72 1 = some (.iconst 0, []) := by decide +kernel
theorem kc_72_2 : xe_code 72 2 = some (.putfield 169, [12, 0, 947]) := by decide +kernel
theorem kc_72_5 : xe_code 72 5 = some (.aload_n 0, []) := by decide +kernel
theorem kc_72_6 : xe_code 72 6 = some (.getfield 317, [12, 61, 1008]) := by decide +kernel
theorem kc_72_9 : xe_code 72 9 = some (.istore_n 2, []) := by decide +kernel
theorem kc_72_10 : xe_code 72 10 = some (.aload_n 0, []) := by decide +kernel
theorem kc_72_11 : xe_code 72 11 = some (.iload_n 1, []) := by decide +kernel
theorem kc_72_12 : xe_code 72 12 = some (.putfield 317, [12, 61, 1008]) := by decide +kernel
theorem kc_72_15 : xe_code 72 15 = some (.iload_n 2, []) := by decide +kernel
theorem kc_72_16 : xe_code 72 16 = some (.iload_n 1, []) := by decide +kernel
theorem kc_72_17 : xe_code 72 17 = some (.if_icmp .ne 7, [24]) := by decide +kernel
theorem kc_72_20 : xe_code 72 20 = some (.iconst 0, []) := by decide +kernel
theorem kc_72_21 : xe_code 72 21 = some (.goto 4, [25]) := by decide +kernel
theorem kc_72_24 : xe_code 72 24 = some (.iconst 1, []) := by decide +kernel
theorem kc_72_25 : xe_code 72 25 = some (.ireturn, []) := by decide +kernel
theorem kc_90_0 : xe_code 90 0 = some (.iload_n 0, []) := by decide +kernel
theorem kc_90_1 : xe_code 90 1 = some (.ifCond .lt 13, [14]) := by decide +kernel
theorem kc_90_4 : xe_code 90 4 = some (.iload_n 0, []) := by decide +kernel
theorem kc_90_5 : xe_code 90 5 = some (.bipush 6, []) := by decide +kernel
theorem kc_90_7 : xe_code 90 7 = some (.if_icmp .ge 7, [14]) := by decide +kernel
theorem kc_90_10 : xe_code 90 10 = some (.iconst 1, []) := by decide +kernel
theorem kc_90_11 : xe_code 90 11 = some (.goto 4, [15]) := by decide +kernel
theorem kc_90_14 : xe_code 90 14 = some (.iconst 0, []) := by decide +kernel
theorem kc_90_15 : xe_code 90 15 = some (.ireturn, []) := by decide +kernel
theorem kc_91_0 : xe_code 91 0 = some (.iload_n 1, []) := by decide +kernel
theorem kc_91_1 : xe_code 91 1 = some (.ineg, []) := by decide +kernel
theorem kc_91_2 : xe_code 91 2 = some (.istore_n 2, []) := by decide +kernel
theorem kc_91_3 : xe_code 91 3 = some (.iload_n 2, []) := by decide +kernel
theorem kc_91_4 : xe_code 91 4 = some (.ifCond .lt 22, [26]) := by decide +kernel
theorem kc_91_7 : xe_code 91 7 = some (.iload_n 2, []) := by decide +kernel
theorem kc_91_8 : xe_code 91 8 = some (.aload_n 0, []) := by decide +kernel
theorem kc_91_9 : xe_code 91 9 = some (.getfield 59, [0, 7, 376]) := by decide +kernel
theorem kc_91_12 : xe_code 91 12 = some (.arraylength, []) := by decide +kernel
theorem kc_91_13 : xe_code 91 13 = some (.if_icmp .ge 13, [26]) := by decide +kernel
theorem kc_91_16 : xe_code 91 16 = some (.aload_n 0, []) := by decide +kernel
theorem kc_91_17 : xe_code 91 17 = some (.getfield 59, [0, 7, 376]) := by decide +kernel
theorem kc_91_20 : xe_code 91 20 = some (.iload_n 2, []) := by decide +kernel
theorem kc_91_21 : xe_code 91 21 = some (.dup2, []) := by decide +kernel
theorem kc_91_22 : xe_code 91 22 = some (.iaload, []) := by decide +kernel
theorem kc_91_23 : xe_code 91 23 = some (.iconst 1, []) := by decide +kernel
theorem kc_91_24 : xe_code 91 24 = some (.iadd, []) := by decide +kernel
theorem kc_91_25 : xe_code 91 25 = some (.iastore, []) := by decide +kernel
theorem kc_91_26 : xe_code 91 26 = some (.iload_n 1, []) := by decide +kernel
theorem kc_91_27 : xe_code 91 27 = some (.ireturn, []) := by decide +kernel
theorem kc_92_0 : xe_code 92 0 = some (.aload_n 0, []) := by decide +kernel
theorem kc_92_1 : xe_code 92 1 = some (.lconst 0, []) := by decide +kernel
theorem kc_92_2 : xe_code 92 2 = some (.putfield 39, [3, 7, 239]) := by decide +kernel
theorem kc_92_5 : xe_code 92 5 = some (.return_, []) := by decide +kernel
theorem kc_111_0 : xe_code 111 0 = some (.iload_n 1, []) := by decide +kernel
theorem kc_111_1 : xe_code 111 1 = some (.iconst 1, []) := by decide +kernel
theorem kc_111_2 : xe_code 111 2 = some (.if_icmp .ge 10, [12]) := by decide +kernel
theorem kc_111_5 : xe_code 111 5 = some (.aload_n 0, []) := by decide +kernel
theorem kc_111_6 : xe_code 111 6 = some (.bipush (-4), []) := by decide +kernel
theorem kc_111_8 : xe_code 111 8 = some (.invokevirtual 72, [91, 1, 407, 0]) := by decide +kernel
theorem kc_111_11 : xe_code 111 11 = some (.ireturn, []) := by decide +kernel
theorem kc_111_12 : xe_code 111 12 = some (.iload_n 1, []) := by decide +kernel
theorem kc_111_13 : xe_code 111 13 = some (.bipush 50, []) := by decide +kernel
theorem kc_111_15 : xe_code 111 15 = some (.if_icmp .le 10, [25]) := by decide +kernel
theorem kc_111_18 : xe_code 111 18 = some (.aload_n 0, []) := by decide +kernel
theorem kc_111_19 : xe_code 111 19 = some (.bipush (-6), []) := by decide +kernel
theorem kc_111_21 : xe_code 111 21 = some (.invokevirtual 72, [91, 1, 407, 0]) := by decide +kernel
theorem kc_111_24 : xe_code 111 24 = some (.ireturn, []) := by decide +kernel
theorem kc_111_25 : xe_code 111 25 = some (.aload_n 0, []) := by decide +kernel
theorem kc_111_26 : xe_code 111 26 = some (.getfield 28, [0, 2, 371]) := by decide +kernel
theorem kc_111_29 : xe_code 111 29 = some (.invokevirtual 85, [92, 0, 415, 3]) := by decide +kernel
theorem kc_111_32 : xe_code 111 32 = some (.aload_n 0, []) := by decide +kernel
theorem kc_111_33 : xe_code 111 33 = some (.getfield 10, [0, 0, 369]) := by decide +kernel
theorem kc_111_36 : xe_code 111 36 = some (.getfield 154, [4, 6, 180]) := by decide +kernel
theorem kc_111_39 : xe_code 111 39 = some (.istore_n 2, []) := by decide +kernel
theorem kc_111_40 : xe_code 111 40 = some (.aload_n 0, []) := by decide +kernel
theorem kc_111_41 : xe_code 111 41 = some (.getfield 10, [0, 0, 369]) := by decide +kernel
theorem kc_111_44 : xe_code 111 44 = some (.iload_n 1, []) := by decide +kernel
theorem kc_111_45 : xe_code 111 45 = some (.putfield 154, [4, 6, 180]) := by decide +kernel
theorem kc_111_48 : xe_code 111 48 = some (.iload_n 2, []) := by decide +kernel
theorem kc_111_49 : xe_code 111 49 = some (.ireturn, []) := by decide +kernel
theorem kc_113_0 : xe_code 113 0 = some (.iload_n 1, []) := by decide +kernel
theorem kc_113_1 : xe_code 113 1 = some (.invokestatic 68, [90, 1, 404, 0]) := by decide +kernel
theorem kc_113_4 : xe_code 113 4 = some (.ifCond .eq 15, [19]) := by decide +kernel
theorem kc_113_7 : xe_code 113 7 = some (.aload_n 0, []) := by decide +kernel
theorem kc_113_8 : xe_code 113 8 = some (.getfield 19, [0, 1, 370]) := by decide +kernel
theorem kc_113_11 : xe_code 113 11 = some (.getfield 82, [9, 0, 203]) := by decide +kernel
theorem kc_113_14 : xe_code 113 14 = some (.iload_n 1, []) := by decide +kernel
theorem kc_113_15 : xe_code 113 15 = some (.iaload, []) := by decide +kernel
theorem kc_113_16 : xe_code 113 16 = some (.goto 8, [24]) := by decide +kernel
theorem kc_113_19 : xe_code 113 19 = some (.aload_n 0, []) := by decide +kernel
theorem kc_113_20 : xe_code 113 20 = some (.iconst (-1), []) := by decide +kernel
theorem kc_113_21 : xe_code 113 21 = some (.invokevirtual 72, [91, 1, 407, 0]) := by decide +kernel
theorem kc_113_24 : xe_code 113 24 = some (.ireturn, []) := by decide +kernel
theorem kc_180_0 : xe_code 180 0 = some (.aload_n 0, []) := by decide +kernel
theorem kc_180_1 : xe_code 180 1 = some (.getfield 49, [0, 5, 374]) := by decide +kernel
theorem kc_180_4 : xe_code 180 4 = some (.getfield 275, [5, 7, 321]) := by decide +kernel
theorem kc_180_7 : xe_code 180 7 = some (.iload_n 1, []) := by decide +kernel
theorem kc_180_8 : xe_code 180 8 = some (.if_icmp .ne 5, [13]) := by decide +kernel
theorem kc_180_11 : xe_code 180 11 = some (.iconst 0, []) := by decide +kernel
theorem kc_180_12 : xe_code 180 12 = some (.ireturn, []) := by decide +kernel
theorem kc_180_13 : xe_code 180 13 = some (.aload_n 0, []) := by decide +kernel
theorem kc_180_14 : xe_code 180 14 = some (.getfield 49, [0, 5, 374]) := by decide +kernel
theorem kc_180_17 : xe_code 180 17 = some (.iload_n 1, []) := by decide +kernel
theorem kc_180_18 : xe_code 180 18 = some (.putfield 275, [5, 7, 321]) := by decide +kernel
theorem kc_180_21 : xe_code 180 21 = some (.iconst 1, []) := by decide +kernel
theorem kc_180_22 : xe_code 180 22 = some (.ireturn, []) := by decide +kernel
theorem kc_196_23 : xe_code 196 23 = some (.iload 4, []) := by decide +kernel
theorem kc_196_25 : xe_code 196 25 = some (.aload_n 0, []) := by decide +kernel
theorem kc_196_26 : xe_code 196 26 = some (.arraylength, []) := by decide +kernel
theorem kc_196_27 : xe_code 196 27 = some (.bipush 6, []) := by decide +kernel
theorem kc_196_29 : xe_code 196 29 = some (.isub, []) := by decide +kernel
theorem kc_196_30 : xe_code 196 30 = some (.if_icmp .gt 1504, [1534]) := by decide +kernel
theorem kc_196_515 : xe_code 196 515 = some (.aload_n 1, []) := by decide +kernel
theorem kc_196_516 : xe_code 196 516 = some (.aload_n 0, []) := by decide +kernel
theorem kc_196_517 : xe_code 196 517 = some (.iload 4, []) := by decide +kernel
theorem kc_196_519 : xe_code 196 519 = some (.iconst 1, []) := by decide +kernel
theorem kc_196_520 : xe_code 196 520 = some (.iadd, []) := by decide +kernel
theorem kc_196_521 : xe_code 196 521 = some (.iaload, []) := by decide +kernel
theorem kc_196_522 : xe_code 196 522 = some (.invokevirtual 51, [111, 1, 499, 0]) := by decide +kernel
theorem kc_196_525 : xe_code 196 525 = some (.aload_n 2, []) := by decide +kernel
theorem kc_196_526 : xe_code 196 526 = some (.aload_n 0, []) := by decide +kernel
theorem kc_196_527 : xe_code 196 527 = some (.iload 4, []) := by decide +kernel
theorem kc_196_529 : xe_code 196 529 = some (.iconst 1, []) := by decide +kernel
theorem kc_196_530 : xe_code 196 530 = some (.iadd, []) := by decide +kernel
theorem kc_196_531 : xe_code 196 531 = some (.iaload, []) := by decide +kernel
theorem kc_196_532 : xe_code 196 532 = some (.invokevirtual 54, [28, 1, 1215, 12]) := by decide +kernel
theorem kc_196_535 : xe_code 196 535 = some (.if_icmp .eq 993, [1528]) := by decide +kernel
theorem kc_196_565 : xe_code 196 565 = some (.aload_n 1, []) := by decide +kernel
theorem kc_196_566 : xe_code 196 566 = some (.aload_n 0, []) := by decide +kernel
theorem kc_196_567 : xe_code 196 567 = some (.iload 4, []) := by decide +kernel
theorem kc_196_569 : xe_code 196 569 = some (.iconst 1, []) := by decide +kernel
theorem kc_196_570 : xe_code 196 570 = some (.iadd, []) := by decide +kernel
theorem kc_196_571 : xe_code 196 571 = some (.iaload, []) := by decide +kernel
theorem kc_196_572 : xe_code 196 572 = some (.invokevirtual 59, [113, 1, 507, 0]) := by decide +kernel
theorem kc_196_575 : xe_code 196 575 = some (.aload_n 2, []) := by decide +kernel
theorem kc_196_576 : xe_code 196 576 = some (.aload_n 0, []) := by decide +kernel
theorem kc_196_577 : xe_code 196 577 = some (.iload 4, []) := by decide +kernel
theorem kc_196_579 : xe_code 196 579 = some (.iconst 1, []) := by decide +kernel
theorem kc_196_580 : xe_code 196 580 = some (.iadd, []) := by decide +kernel
theorem kc_196_581 : xe_code 196 581 = some (.iaload, []) := by decide +kernel
theorem kc_196_582 : xe_code 196 582 = some (.invokevirtual 62, [30, 1, 1223, 12]) := by decide +kernel
theorem kc_196_585 : xe_code 196 585 = some (.if_icmp .eq 943, [1528]) := by decide +kernel
theorem kc_196_1319 : xe_code 196 1319 = some (.aload_n 1, []) := by decide +kernel
theorem kc_196_1320 : xe_code 196 1320 = some (.aload_n 0, []) := by decide +kernel
theorem kc_196_1321 : xe_code 196 1321 = some (.iload 4, []) := by decide +kernel
theorem kc_196_1323 : xe_code 196 1323 = some (.iconst 1, []) := by decide +kernel
theorem kc_196_1324 : xe_code 196 1324 = some (.iadd, []) := by decide +kernel
theorem kc_196_1325 : xe_code 196 1325 = some (.iaload, []) := by decide +kernel
theorem kc_196_1326 : xe_code 196 1326 = some (.ifCond .eq 7, [1333]) := by decide +kernel
theorem kc_196_1329 : xe_code 196 1329 = some (.iconst 1, []) := by decide +kernel
theorem kc_196_1330 : xe_code 196 1330 = some (.goto 4, [1334]) := by decide +kernel
theorem kc_196_1333 : xe_code 196 1333 = some (.iconst 0, []) := by decide +kernel
theorem kc_196_1334 : xe_code 196 1334 = some (.invokevirtual 148, [180, 1, 808, 0]) := by decide +kernel
theorem kc_196_1337 : xe_code 196 1337 = some (.aload_n 2, []) := by decide +kernel
theorem kc_196_1338 : xe_code 196 1338 = some (.aload_n 0, []) := by decide +kernel
theorem kc_196_1339 : xe_code 196 1339 = some (.iload 4, []) := by decide +kernel
theorem kc_196_1341 : xe_code 196 1341 = some (.iconst 1, []) := by decide +kernel
theorem kc_196_1342 : xe_code 196 1342 = some (.iadd, []) := by decide +kernel
theorem kc_196_1343 : xe_code 196 1343 = some (.iaload, []) := by decide +kernel
theorem kc_196_1344 : xe_code 196 1344 = some (.ifCond .eq 7, [1351]) := by decide +kernel
theorem kc_196_1347 : xe_code 196 1347 = some (.iconst 1, []) := by decide +kernel
theorem kc_196_1348 : xe_code 196 1348 = some (.goto 4, [1352]) := by decide +kernel
theorem kc_196_1351 : xe_code 196 1351 = some (.iconst 0, []) := by decide +kernel
theorem kc_196_1352 : xe_code 196 1352 = some (.invokevirtual 152, [72, 1, 1389, 12]) := by decide +kernel
theorem kc_196_1355 : xe_code 196 1355 = some (.if_icmp .eq 173, [1528]) := by decide +kernel
theorem kc_196_1528 : xe_code 196 1528 = some (.iinc 4 6, []) := by decide +kernel
theorem kc_196_1531 : xe_code 196 1531 = some (.goto (-1508), [23]) := by decide +kernel
theorem kc_196_1534 : xe_code 196 1534 = some (.iconst 1, []) := by decide +kernel
theorem kc_196_1535 : xe_code 196 1535 = some (.ireturn, []) := by decide +kernel
