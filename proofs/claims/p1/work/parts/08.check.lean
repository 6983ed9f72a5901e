theorem dJx35411_init_45d68_0 : decode cJx35411_init_45d68 0 = .ok (.aload_n 0, 1) := by decide +kernel
theorem dJx35411_init_45d68_1 : decode cJx35411_init_45d68 1 = .ok (.aload_n 1, 1) := by decide +kernel
theorem dJx35411_init_45d68_2 : decode cJx35411_init_45d68 2 = .ok (.putfield 1, 3) := by decide +kernel
theorem dJx35411_init_45d68_5 : decode cJx35411_init_45d68 5 = .ok (.aload_n 0, 1) := by decide +kernel
theorem dJx35411_init_45d68_6 : decode cJx35411_init_45d68 6 = .ok (.invokespecial 7, 3) := by decide +kernel
theorem dJx35411_init_45d68_9 : decode cJx35411_init_45d68 9 = .ok (.aload_n 0, 1) := by decide +kernel
theorem dJx35411_init_45d68_10 : decode cJx35411_init_45d68 10 = .ok (.iconst (-1), 1) := by decide +kernel
theorem dJx35411_init_45d68_11 : decode cJx35411_init_45d68 11 = .ok (.putfield 13, 3) := by decide +kernel
theorem dJx35411_init_45d68_14 : decode cJx35411_init_45d68 14 = .ok (.aload_n 0, 1) := by decide +kernel
theorem dJx35411_init_45d68_15 : decode cJx35411_init_45d68 15 = .ok (.aload_n 0, 1) := by decide +kernel
theorem dJx35411_init_45d68_16 : decode cJx35411_init_45d68 16 = .ok (.getfield 1, 3) := by decide +kernel
theorem dJx35411_init_45d68_19 : decode cJx35411_init_45d68 19 = .ok (.getfield 17, 3) := by decide +kernel
theorem dJx35411_init_45d68_22 : decode cJx35411_init_45d68 22 = .ok (.putfield 22, 3) := by decide +kernel
theorem dJx35411_init_45d68_25 : decode cJx35411_init_45d68 25 = .ok (.return_, 1) := by decide +kernel
theorem dJx4a65c_iterator_32c93_0 : decode cJx4a65c_iterator_32c93 0 = .ok (.new 267, 3) := by decide +kernel
theorem dJx4a65c_iterator_32c93_3 : decode cJx4a65c_iterator_32c93 3 = .ok (.dup, 1) := by decide +kernel
theorem dJx4a65c_iterator_32c93_4 : decode cJx4a65c_iterator_32c93 4 = .ok (.aload_n 0, 1) := by decide +kernel
theorem dJx4a65c_iterator_32c93_5 : decode cJx4a65c_iterator_32c93 5 = .ok (.invokespecial 269, 3) := by decide +kernel
theorem dJx4a65c_iterator_32c93_8 : decode cJx4a65c_iterator_32c93 8 = .ok (.areturn, 1) := by decide +kernel
theorem dJx35411_hasNext_aae02_0 : decode cJx35411_hasNext_aae02 0 = .ok (.aload_n 0, 1) := by decide +kernel
theorem dJx35411_hasNext_aae02_1 : decode cJx35411_hasNext_aae02 1 = .ok (.getfield 25, 3) := by decide +kernel
theorem dJx35411_hasNext_aae02_4 : decode cJx35411_hasNext_aae02 4 = .ok (.aload_n 0, 1) := by decide +kernel
theorem dJx35411_hasNext_aae02_5 : decode cJx35411_hasNext_aae02 5 = .ok (.getfield 1, 3) := by decide +kernel
theorem dJx35411_hasNext_aae02_8 : decode cJx35411_hasNext_aae02 8 = .ok (.getfield 28, 3) := by decide +kernel
theorem dJx35411_hasNext_aae02_11 : decode cJx35411_hasNext_aae02 11 = .ok (.if_icmp .eq 7, 3) := by decide +kernel
theorem dJx35411_hasNext_aae02_18 : decode cJx35411_hasNext_aae02 18 = .ok (.iconst 0, 1) := by decide +kernel
theorem dJx35411_hasNext_aae02_19 : decode cJx35411_hasNext_aae02 19 = .ok (.ireturn, 1) := by decide +kernel
theorem dJx4a65c_grow_92f84_0 : decode cJx4a65c_grow_92f84 0 = .ok (.aload_n 0, 1) := by decide +kernel
theorem dJx4a65c_grow_92f84_1 : decode cJx4a65c_grow_92f84 1 = .ok (.getfield 9, 3) := by decide +kernel
theorem dJx4a65c_grow_92f84_4 : decode cJx4a65c_grow_92f84 4 = .ok (.arraylength, 1) := by decide +kernel
theorem dJx4a65c_grow_92f84_5 : decode cJx4a65c_grow_92f84 5 = .ok (.istore_n 2, 1) := by decide +kernel
theorem dJx4a65c_grow_92f84_6 : decode cJx4a65c_grow_92f84 6 = .ok (.iload_n 2, 1) := by decide +kernel
theorem dJx4a65c_grow_92f84_7 : decode cJx4a65c_grow_92f84 7 = .ok (.ifCond .gt 13, 3) := by decide +kernel
theorem dJx4a65c_grow_92f84_10 : decode cJx4a65c_grow_92f84 10 = .ok (.aload_n 0, 1) := by decide +kernel
theorem dJx4a65c_grow_92f84_11 : decode cJx4a65c_grow_92f84 11 = .ok (.getfield 9, 3) := by decide +kernel
theorem dJx4a65c_grow_92f84_14 : decode cJx4a65c_grow_92f84 14 = .ok (.getstatic 39, 3) := by decide +kernel
theorem dJx4a65c_grow_92f84_17 : decode cJx4a65c_grow_92f84 17 = .ok (.if_acmp .eq 28, 3) := by decide +kernel
theorem dJx4a65c_grow_92f84_45 : decode cJx4a65c_grow_92f84 45 = .ok (.aload_n 0, 1) := by decide +kernel
theorem dJx4a65c_grow_92f84_46 : decode cJx4a65c_grow_92f84 46 = .ok (.bipush 10, 2) := by decide +kernel
theorem dJx4a65c_grow_92f84_48 : decode cJx4a65c_grow_92f84 48 = .ok (.iload_n 1, 1) := by decide +kernel
theorem dJx4a65c_grow_92f84_49 : decode cJx4a65c_grow_92f84 49 = .ok (.invokestatic 79, 3) := by decide +kernel
theorem dJx4a65c_grow_92f84_52 : decode cJx4a65c_grow_92f84 52 = .ok (.anewarray 7, 3) := by decide +kernel
theorem dJx4a65c_grow_92f84_55 : decode cJx4a65c_grow_92f84 55 = .ok (.dup_x1, 1) := by decide +kernel
theorem dJx4a65c_grow_92f84_56 : decode cJx4a65c_grow_92f84 56 = .ok (.putfield 9, 3) := by decide +kernel
theorem dJx4a65c_grow_92f84_59 : decode cJx4a65c_grow_92f84 59 = .ok (.areturn, 1) := by decide +kernel
theorem dJx4a65c_grow_d5877_0 : decode cJx4a65c_grow_d5877 0 = .ok (.aload_n 0, 1) := by decide +kernel
theorem dJx4a65c_grow_d5877_1 : decode cJx4a65c_grow_d5877 1 = .ok (.aload_n 0, 1) := by decide +kernel
theorem dJx4a65c_grow_d5877_2 : decode cJx4a65c_grow_d5877 2 = .ok (.getfield 48, 3) := by decide +kernel
theorem dJx4a65c_grow_d5877_5 : decode cJx4a65c_grow_d5877 5 = .ok (.iconst 1, 1) := by decide +kernel
theorem dJx4a65c_grow_d5877_6 : decode cJx4a65c_grow_d5877 6 = .ok (.iadd, 1) := by decide +kernel
theorem dJx4a65c_grow_d5877_7 : decode cJx4a65c_grow_d5877 7 = .ok (.invokevirtual 69, 3) := by decide +kernel
theorem dJx4a65c_grow_d5877_10 : decode cJx4a65c_grow_d5877 10 = .ok (.areturn, 1) := by decide +kernel
theorem dJx4a65c_add_72be8_0 : decode cJx4a65c_add_72be8 0 = .ok (.iload_n 3, 1) := by decide +kernel
theorem dJx4a65c_add_72be8_1 : decode cJx4a65c_add_72be8 1 = .ok (.aload_n 2, 1) := by decide +kernel
theorem dJx4a65c_add_72be8_2 : decode cJx4a65c_add_72be8 2 = .ok (.arraylength, 1) := by decide +kernel
theorem dJx4a65c_add_72be8_3 : decode cJx4a65c_add_72be8 3 = .ok (.if_icmp .ne 8, 3) := by decide +kernel
theorem dJx4a65c_add_72be8_6 : decode cJx4a65c_add_72be8 6 = .ok (.aload_n 0, 1) := by decide +kernel
theorem dJx4a65c_add_72be8_7 : decode cJx4a65c_add_72be8 7 = .ok (.invokevirtual 129, 3) := by decide +kernel
theorem dJx4a65c_add_72be8_10 : decode cJx4a65c_add_72be8 10 = .ok (.astore_n 2, 1) := by decide +kernel
theorem dJx4a65c_add_72be8_11 : decode cJx4a65c_add_72be8 11 = .ok (.aload_n 2, 1) := by decide +kernel
theorem dJx4a65c_add_72be8_12 : decode cJx4a65c_add_72be8 12 = .ok (.iload_n 3, 1) := by decide +kernel
theorem dJx4a65c_add_72be8_13 : decode cJx4a65c_add_72be8 13 = .ok (.aload_n 1, 1) := by decide +kernel
theorem dJx4a65c_add_72be8_14 : decode cJx4a65c_add_72be8 14 = .ok (.aastore, 1) := by decide +kernel
theorem dJx4a65c_add_72be8_15 : decode cJx4a65c_add_72be8 15 = .ok (.aload_n 0, 1) := by decide +kernel
theorem dJx4a65c_add_72be8_16 : decode cJx4a65c_add_72be8 16 = .ok (.iload_n 3, 1) := by decide +kernel
theorem dJx4a65c_add_72be8_17 : decode cJx4a65c_add_72be8 17 = .ok (.iconst 1, 1) := by decide +kernel
theorem dJx4a65c_add_72be8_18 : decode cJx4a65c_add_72be8 18 = .ok (.iadd, 1) := by decide +kernel
theorem dJx4a65c_add_72be8_19 : decode cJx4a65c_add_72be8 19 = .ok (.putfield 48, 3) := by decide +kernel
theorem dJx4a65c_add_72be8_22 : decode cJx4a65c_add_72be8 22 = .ok (.return_, 1) := by decide +kernel
theorem dJx4a65c_add_9ea2d_0 : decode cJx4a65c_add_9ea2d 0 = .ok (.aload_n 0, 1) := by decide +kernel
theorem dJx4a65c_add_9ea2d_1 : decode cJx4a65c_add_9ea2d 1 = .ok (.dup, 1) := by decide +kernel
theorem dJx4a65c_add_9ea2d_2 : decode cJx4a65c_add_9ea2d 2 = .ok (.getfield 63, 3) := by decide +kernel
theorem dJx4a65c_add_9ea2d_5 : decode cJx4a65c_add_9ea2d 5 = .ok (.iconst 1, 1) := by decide +kernel
theorem dJx4a65c_add_9ea2d_6 : decode cJx4a65c_add_9ea2d 6 = .ok (.iadd, 1) := by decide +kernel
theorem dJx4a65c_add_9ea2d_7 : decode cJx4a65c_add_9ea2d 7 = .ok (.putfield 63, 3) := by decide +kernel
theorem dJx4a65c_add_9ea2d_10 : decode cJx4a65c_add_9ea2d 10 = .ok (.aload_n 0, 1) := by decide +kernel
theorem dJx4a65c_add_9ea2d_11 : decode cJx4a65c_add_9ea2d 11 = .ok (.aload_n 1, 1) := by decide +kernel
theorem dJx4a65c_add_9ea2d_12 : decode cJx4a65c_add_9ea2d 12 = .ok (.aload_n 0, 1) := by decide +kernel
theorem dJx4a65c_add_9ea2d_13 : decode cJx4a65c_add_9ea2d 13 = .ok (.getfield 9, 3) := by decide +kernel
theorem dJx4a65c_add_9ea2d_16 : decode cJx4a65c_add_9ea2d 16 = .ok (.aload_n 0, 1) := by decide +kernel
theorem dJx4a65c_add_9ea2d_17 : decode cJx4a65c_add_9ea2d 17 = .ok (.getfield 48, 3) := by decide +kernel
theorem dJx4a65c_add_9ea2d_20 : decode cJx4a65c_add_9ea2d 20 = .ok (.invokevirtual 131, 3) := by decide +kernel
theorem dJx4a65c_add_9ea2d_23 : decode cJx4a65c_add_9ea2d 23 = .ok (.iconst 1, 1) := by decide +kernel
theorem dJx4a65c_add_9ea2d_24 : decode cJx4a65c_add_9ea2d 24 = .ok (.ireturn, 1) := by decide +kernel
theorem dX12_init_0 : decode cX12_init 0 = .ok (.aload_n 0, 1) := by decide +kernel
theorem dX12_init_1 : decode cX12_init 1 = .ok (.invokespecial 1, 3) := by decide +kernel
theorem dX12_init_4 : decode cX12_init 4 = .ok (.aload_n 0, 1) := by decide +kernel
theorem dX12_init_5 : decode cX12_init 5 = .ok (.iconst (-1), 1) := by decide +kernel
theorem dX12_init_6 : decode cX12_init 6 = .ok (.putfield 7, 3) := by decide +kernel
theorem dX12_init_9 : decode cX12_init 9 = .ok (.aload_n 0, 1) := by decide +kernel
theorem dX12_init_10 : decode cX12_init 10 = .ok (.bipush 20, 2) := by decide +kernel
theorem dX12_init_12 : decode cX12_init 12 = .ok (.newarray .int, 2) := by decide +kernel
theorem dX12_init_14 : decode cX12_init 14 = .ok (.putfield 13, 3) := by decide +kernel
theorem dX12_init_17 : decode cX12_init 17 = .ok (.aload_n 0, 1) := by decide +kernel
theorem dX12_init_18 : decode cX12_init 18 = .ok (.new 17, 3) := by decide +kernel
theorem dX12_init_21 : decode cX12_init 21 = .ok (.dup, 1) := by decide +kernel
theorem dX12_init_22 : decode cX12_init 22 = .ok (.invokespecial 19, 3) := by decide +kernel
theorem dX12_init_25 : decode cX12_init 25 = .ok (.putfield 20, 3) := by decide +kernel
theorem dX12_init_28 : decode cX12_init 28 = .ok (.aload_n 0, 1) := by decide +kernel
theorem dX12_init_29 : decode cX12_init 29 = .ok (.iload_n 1, 1) := by decide +kernel
theorem dX12_init_30 : decode cX12_init 30 = .ok (.putfield 24, 3) := by decide +kernel
theorem dX12_init_33 : decode cX12_init 33 = .ok (.aload_n 0, 1) := by decide +kernel
theorem dX12_init_34 : decode cX12_init 34 = .ok (.iload_n 2, 1) := by decide +kernel
theorem dX12_init_35 : decode cX12_init 35 = .ok (.putfield 27, 3) := by decide +kernel
theorem dX12_init_38 : decode cX12_init 38 = .ok (.iconst 0, 1) := by decide +kernel
theorem dX12_init_39 : decode cX12_init 39 = .ok (.istore_n 3, 1) := by decide +kernel
theorem dX12_init_40 : decode cX12_init 40 = .ok (.iload_n 3, 1) := by decide +kernel
theorem dX12_init_41 : decode cX12_init 41 = .ok (.bipush 20, 2) := by decide +kernel
theorem dX12_init_43 : decode cX12_init 43 = .ok (.if_icmp .ge 16, 3) := by decide +kernel
theorem dX12_init_46 : decode cX12_init 46 = .ok (.aload_n 0, 1) := by decide +kernel
theorem dX12_init_47 : decode cX12_init 47 = .ok (.getfield 13, 3) := by decide +kernel
theorem dX12_init_50 : decode cX12_init 50 = .ok (.iload_n 3, 1) := by decide +kernel
theorem dX12_init_51 : decode cX12_init 51 = .ok (.iconst (-1), 1) := by decide +kernel
theorem dX12_init_52 : decode cX12_init 52 = .ok (.iastore, 1) := by decide +kernel
theorem dX12_init_53 : decode cX12_init 53 = .ok (.iinc 3 1, 3) := by decide +kernel
theorem dX12_init_56 : decode cX12_init 56 = .ok (.goto (-16), 3) := by decide +kernel
theorem dX12_init_59 : decode cX12_init 59 = .ok (.return_, 1) := by decide +kernel
abbrev wzJx35411_hasNext_aae02 : List Cond := .code yJx35411_hasNext_aae02 cJx35411_hasNext_aae02 1 (some .boolean) :: zx_G
abbrev wzJx35411_init_45d68 : List Cond := .code yJx35411_init_45d68 cJx35411_init_45d68 2 none :: zx_G
abbrev wzJx4a65c_add_72be8 : List Cond := .code yJx4a65c_add_72be8 cJx4a65c_add_72be8 4 none :: zx_G
abbrev wzJx4a65c_add_9ea2d : List Cond := .code yJx4a65c_add_9ea2d cJx4a65c_add_9ea2d 2 (some .boolean) :: zx_G
abbrev wzJx4a65c_grow_92f84 : List Cond := .code yJx4a65c_grow_92f84 cJx4a65c_grow_92f84 4 (some (.array (.object "java/lang/Object"))) :: zx_G
abbrev wzJx4a65c_grow_d5877 : List Cond := .code yJx4a65c_grow_d5877 cJx4a65c_grow_d5877 1 (some (.array (.object "java/lang/Object"))) :: zx_G
abbrev wzJx4a65c_iterator_32c93 : List Cond := .code yJx4a65c_iterator_32c93 cJx4a65c_iterator_32c93 1 (some (.object "java/util/Iterator")) :: zx_G
abbrev wzX12_init : List Cond := .code yX12_init cX12_init 4 none :: zx_G
theorem mm_5 : (.selects RJx4a65c yJx4a65c_add_72be8 yJx4a65c_add_72be8 : Cond) ∈ zx_G := zx_wi 5 (by decide +kernel) (by decide +kernel)
theorem mm_6 : (.selects RJx4a65c yJx4a65c_grow_d5877 yJx4a65c_grow_d5877 : Cond) ∈ zx_G := zx_wi 6 (by decide +kernel) (by decide +kernel)
theorem mm_7 : (.selects RJx4a65c yJx4a65c_grow_92f84 yJx4a65c_grow_92f84 : Cond) ∈ zx_G := zx_wi 7 (by decide +kernel) (by decide +kernel)
theorem mm_86 : (.initialized "java/lang/Math" : Cond) ∈ zx_G := zx_wi 86 (by decide +kernel) (by decide +kernel)
theorem mm_93 : (.initialized RJx35411 : Cond) ∈ zx_G := zx_wi 93 (by decide +kernel) (by decide +kernel)
theorem mm_218 : (.fieldLink RJx35411 17 "java/util/ArrayList" "modCount" "I" : Cond) ∈ zx_G := zx_wi 218 (by decide +kernel) (by decide +kernel)
theorem mm_219 : (.sameField "java/util/ArrayList" "java/util/AbstractList" "modCount" "I" : Cond) ∈ zx_G := zx_wi 219 (by decide +kernel) (by decide +kernel)
theorem mm_220 : (.fieldLink RJx4a65c 63 "java/util/ArrayList" "modCount" "I" : Cond) ∈ zx_G := zx_wi 220 (by decide +kernel) (by decide +kernel)
theorem mm_279 : (.static Lib.Math.max.name : Cond) ∈ zx_G := zx_wi 279 (by decide +kernel) (by decide +kernel)
theorem mm_280 : (.code Lib.Math.max.name Lib.Math.max.code 2 (some .int) : Cond) ∈ zx_G := zx_wi 280 (by decide +kernel) (by decide +kernel)
theorem mm_776 : (.methodLink RJx4a65c 131 yJx4a65c_add_72be8 : Cond) ∈ zx_G := zx_wi 776 (by decide +kernel) (by decide +kernel)
theorem mm_778 : (.instanceMethod yJx4a65c_add_72be8 : Cond) ∈ zx_G := zx_wi 778 (by decide +kernel) (by decide +kernel)
theorem mm_779 : (.code yJx4a65c_add_72be8 cJx4a65c_add_72be8 4 none : Cond) ∈ zx_G := zx_wi 779 (by decide +kernel) (by decide +kernel)
theorem mm_780 : (.methodLink RJx4a65c 129 yJx4a65c_grow_d5877 : Cond) ∈ zx_G := zx_wi 780 (by decide +kernel) (by decide +kernel)
theorem mm_782 : (.instanceMethod yJx4a65c_grow_d5877 : Cond) ∈ zx_G := zx_wi 782 (by decide +kernel) (by decide +kernel)
theorem mm_783 : (.code yJx4a65c_grow_d5877 cJx4a65c_grow_d5877 1 (some (.array (.object "java/lang/Object"))) : Cond) ∈ zx_G := zx_wi 783 (by decide +kernel) (by decide +kernel)
theorem mm_784 : (.methodLink RJx4a65c 69 yJx4a65c_grow_92f84 : Cond) ∈ zx_G := zx_wi 784 (by decide +kernel) (by decide +kernel)
theorem mm_786 : (.instanceMethod yJx4a65c_grow_92f84 : Cond) ∈ zx_G := zx_wi 786 (by decide +kernel) (by decide +kernel)
theorem mm_787 : (.code yJx4a65c_grow_92f84 cJx4a65c_grow_92f84 4 (some (.array (.object "java/lang/Object"))) : Cond) ∈ zx_G := zx_wi 787 (by decide +kernel) (by decide +kernel)
theorem mm_835 : (.methodLink RJx4a65c 79 Lib.Math.max.name : Cond) ∈ zx_G := zx_wi 835 (by decide +kernel) (by decide +kernel)
theorem mm_836 : (.classLink RJx4a65c 7 "java/lang/Object" : Cond) ∈ zx_G := zx_wi 836 (by decide +kernel) (by decide +kernel)
theorem mm_1621 : (.methodLink RX12 1 objectInit : Cond) ∈ zx_G := zx_wi 1621 (by decide +kernel) (by decide +kernel)
theorem mm_1622 : (.classLink RX12 17 RJx4a65c : Cond) ∈ zx_G := zx_wi 1622 (by decide +kernel) (by decide +kernel)
theorem mm_1623 : (.methodLink RX12 19 yJx4a65c_init_da8c8 : Cond) ∈ zx_G := zx_wi 1623 (by decide +kernel) (by decide +kernel)
theorem mm_1624 : (.fieldLink RX12 27 "RefereehallModel$Person" "words" "I" : Cond) ∈ zx_G := zx_wi 1624 (by decide +kernel) (by decide +kernel)
theorem mm_1626 : (.fieldLink RX12 24 "RefereehallModel$Person" "house" "I" : Cond) ∈ zx_G := zx_wi 1626 (by decide +kernel) (by decide +kernel)
theorem mm_1628 : (.fieldLink RX12 7 "RefereehallModel$Person" "awayTo" "I" : Cond) ∈ zx_G := zx_wi 1628 (by decide +kernel) (by decide +kernel)
theorem mm_1632 : (.fieldLink RX12 13 "RefereehallModel$Person" "money" "[I" : Cond) ∈ zx_G := zx_wi 1632 (by decide +kernel) (by decide +kernel)
theorem mm_1634 : (.fieldLink RX12 20 "RefereehallModel$Person" "left" "Ljava/util/ArrayList;" : Cond) ∈ zx_G := zx_wi 1634 (by decide +kernel) (by decide +kernel)
theorem mm_1677 : (.classLink RJx4a65c 267 RJx35411 : Cond) ∈ zx_G := zx_wi 1677 (by decide +kernel) (by decide +kernel)
theorem mm_1678 : (.instantiable RJx35411 4 : Cond) ∈ zx_G := zx_wi 1678 (by decide +kernel) (by decide +kernel)
theorem mm_1679 : (.methodLink RJx4a65c 269 yJx35411_init_45d68 : Cond) ∈ zx_G := zx_wi 1679 (by decide +kernel) (by decide +kernel)
theorem mm_1680 : (.instanceMethod yJx35411_init_45d68 : Cond) ∈ zx_G := zx_wi 1680 (by decide +kernel) (by decide +kernel)
theorem mm_1681 : (.code yJx35411_init_45d68 cJx35411_init_45d68 2 none : Cond) ∈ zx_G := zx_wi 1681 (by decide +kernel) (by decide +kernel)
theorem mm_1682 : (.methodLink RJx35411 7 objectInit : Cond) ∈ zx_G := zx_wi 1682 (by decide +kernel) (by decide +kernel)
theorem mm_1683 : (.fieldLink RJx35411 25 "java/util/ArrayList$Itr" "cursor" "I" : Cond) ∈ zx_G := zx_wi 1683 (by decide +kernel) (by decide +kernel)
theorem mm_1684 : (.fieldLink RJx35411 13 "java/util/ArrayList$Itr" "lastRet" "I" : Cond) ∈ zx_G := zx_wi 1684 (by decide +kernel) (by decide +kernel)
theorem mm_1685 : (.fieldLink RJx35411 22 "java/util/ArrayList$Itr" "expectedModCount" "I" : Cond) ∈ zx_G := zx_wi 1685 (by decide +kernel) (by decide +kernel)
theorem mm_1686 : (.fieldLink RJx35411 1 "java/util/ArrayList$Itr" "this$0" "Ljava/util/ArrayList;" : Cond) ∈ zx_G := zx_wi 1686 (by decide +kernel) (by decide +kernel)
theorem uz_Jx35411 : ∀ w ∈ u_ws RJx35411 TJx35411 4, w ∈ zx_G := zx_us [1687, 1689, 1691, 1693] (by decide +kernel)
theorem uz_X12 : ∀ w ∈ u_ws RX12 TX12 7, w ∈ zx_G := zx_us [1636, 1638, 1640, 1642, 1644, 1646, 1648] (by decide +kernel)
set_option maxHeartbeats 4000000 in
set_option maxRecDepth 100000 in
theorem c_Itr_init (l : Launch) (hst : l.stackTraces = false) (D : va_G) (cy : Nat → ClassId) (ed sz : Nat) (it : Nat) (pa : Nat) (el : Nat) (mc : Int32) (n : Int32) (cu : Int32) (lr : Int32) (xm : Int32) : Met l yJx35411_init_45d68 wzJx35411_init_45d68 ({ frames := 1, cells := 0, slots := 0, locals := 12 }) (zx_Pc D cy ed sz [.ref it, .ref pa] [(it, .inr (3, [.int cu, .int lr, .int xm, .null])), (pa, .inr (4, [.int mc, .ref el, .int n]))]) (va_Qv (fun (u9 : Unit) => True) (fun (u9 : Unit) (t9 : State) => zx_At D cy (va_A [(it, .inr (3, [.int cu, .int lr, .int xm, .null])), (pa, .inr (4, [.int mc, .ref el, .int n]))] sz) [(it, .inr (3, [.int cu, .int (-1), .int mc, .ref pa])), (pa, .inr (4, [.int mc, .ref el, .int n]))] t9) (va_A [(it, .inr (3, [.int cu, .int lr, .int xm, .null])), (pa, .inr (4, [.int mc, .ref el, .int n]))] sz)) 0 0 (va_A [(it, .inr (3, [.int cu, .int lr, .int xm, .null])), (pa, .inr (4, [.int mc, .ref el, .int n]))] sz) := by
  refine Met.ofW (cc := cJx35411_init_45d68) (maxL := 2) (ret := none) (by decide) rfl ?_
  intro p e s m args below meth c s₁ B hml hv
  obtain ⟨rfl, hsz, hP, hK, hD0, hZ, hN⟩ := hv
  have hx := B.exec
  have hb := B.bytes
  have hr := B.returns
  have hts := atoms_spec (ws := wzJx35411_init_45d68) B.pre
  have hown : s.vm.findClass RJx35411 = some m.cls := findClass_of_methodNamed B.named
  have hlocks := B.notSynchronized
  have hin : meth.name = "<init>" := (name_of_methodNamed B.named B.method).1
  subst hsz
  have hD := hD0.self (sz := s.heap.size)
  generalize hAe : va_A [(it, .inr (3, [.int cu, .int lr, .int xm, .null])), (pa, .inr (4, [.int mc, .ref el, .int n]))] s.heap.size = A at hD hZ ⊢
  have hA : ∀ q : Nat, s.heap.size ≤ q → A q := fun q h => by rw [← hAe]; exact Or.inr h
  have hS : va_S A s.heap s.heap [] := va_S.rf
  have hP : va_P D vwCl [(it, .inr (3, [.int cu, .int lr, .int xm, .null])), (pa, .inr (4, [.int mc, .ref el, .int n]))] s.heap := hP
  have hl := lv_entry ([.ref it, .ref pa]) (n := 2) (Nat.le_of_ble_eq_true rfl)
  rw [lg_entry_eq]
  generalize (lg_sl ([.ref it, .ref pa]) ++ List.replicate (2 - (lg_sl ([.ref it, .ref pa])).length) Slot.unset).toArray = ls at hl ⊢
  have hl : lv_has ls 2 [(0, .ref it), (1, .ref pa)] := hl
  refine lv_aload_n hx hb dJx35411_init_45d68_0 rfl (lv_at hl 0 rfl) ?_
  refine lv_aload_n hx hb dJx35411_init_45d68_1 rfl (lv_at hl 1 rfl) ?_
  refine va_putF (D := D) (ci := 3) (v := .ref pa) (ty := .object "java/util/ArrayList") (C := RJx35411) (T := TJx35411) (N := 4) hx hb hts (fun w h => zx_Gc (uz_Jx35411 w h)) tyJx35411 tyJx35411_ok nmJx35411 hown hK hP hD hS 0 rfl rfl 3 (by decide) (hts (.fieldLink RJx35411 1 "java/util/ArrayList$Itr" "this$0" "Ljava/util/ArrayList;") (zx_Gc mm_1686)) (fun _ h9 => h9) rfl hin rfl (by decide +kernel) rfl rfl (Nat.le_of_ble_eq_true rfl) dJx35411_init_45d68_2 (fun H locs hP hD hS => ?_)
  have hP : va_P D vwCl [(it, .inr (3, [.int cu, .int lr, .int xm, .ref pa])), (pa, .inr (4, [.int mc, .ref el, .int n]))] H := hP
  have hD : va_D A [(it, .inr (3, [.int cu, .int lr, .int xm, .ref pa])), (pa, .inr (4, [.int mc, .ref el, .int n]))] := hD
  refine lv_aload_n hx hb dJx35411_init_45d68_5 rfl (lv_at hl 0 rfl) ?_
  refine W.objInit hx hb hown (hts (.methodLink RJx35411 7 objectInit) (zx_Gc mm_1682)) (hts (.instanceMethod objectInit) (zx_Gc mm_119)) (hts (.code objectInit ⟨#[0xb1]⟩ 1 none) (zx_Gc mm_120)) rfl (by rw [hml]; exact hl.1) rfl dJx35411_init_45d68_6 (Nat.le_of_ble_eq_true rfl) (Nat.le_of_ble_eq_true rfl) ?_
  refine W.eq (g2 := F0 m 9 ls []) rfl ?_
  refine lv_aload_n hx hb dJx35411_init_45d68_9 rfl (lv_at hl 0 rfl) ?_
  refine lv_iconst (v := (-1)) hx hb dJx35411_init_45d68_10 (by decide) ?_
  refine va_put (D := D) (ci := 3) (v := .int (-1)) (ty := .int) (C := RJx35411) (T := TJx35411) (N := 4) hx hb hts (fun w h => zx_Gc (uz_Jx35411 w h)) tyJx35411 tyJx35411_ok nmJx35411 hown hK hP hD hS 0 rfl rfl 1 (by decide) (hts (.fieldLink RJx35411 13 "java/util/ArrayList$Itr" "lastRet" "I") (zx_Gc mm_1684)) (fun _ h9 => h9) rfl (by decide +kernel) rfl rfl (Nat.le_of_ble_eq_true rfl) dJx35411_init_45d68_11 (fun H locs hP hD hS => ?_)
  have hP : va_P D vwCl [(it, .inr (3, [.int cu, .int (-1), .int xm, .ref pa])), (pa, .inr (4, [.int mc, .ref el, .int n]))] H := hP
  have hD : va_D A [(it, .inr (3, [.int cu, .int (-1), .int xm, .ref pa])), (pa, .inr (4, [.int mc, .ref el, .int n]))] := hD
  refine lv_aload_n hx hb dJx35411_init_45d68_14 rfl (lv_at hl 0 rfl) ?_
  refine lv_aload_n hx hb dJx35411_init_45d68_15 rfl (lv_at hl 0 rfl) ?_
  refine va_get (D := D) (ci := 3) (v := .ref pa) (C := RJx35411) (T := TJx35411) (N := 4) hx hb hts (fun w h => zx_Gc (uz_Jx35411 w h)) hown hK hP 0 rfl rfl 3 (by decide) (hts (.fieldLink RJx35411 1 "java/util/ArrayList$Itr" "this$0" "Ljava/util/ArrayList;") (zx_Gc mm_1686)) (fun _ h9 => h9) rfl dJx35411_init_45d68_16 ?_
  refine va_get (D := D) (ci := 4) (v := .int mc) (C := RJx4a65c) (T := TJx4a65c) (N := 3) hx hb hts (fun w h => zx_Gc (uz_Jx4a65c w h)) hown hK hP 1 rfl rfl 0 (by decide) (hts (.fieldLink RJx35411 17 "java/util/ArrayList" "modCount" "I") (zx_Gc mm_218)) (fun x9 h9 => u_same (hts (.sameField "java/util/ArrayList" "java/util/AbstractList" "modCount" "I") (zx_Gc mm_219)) x9 h9) rfl dJx35411_init_45d68_19 ?_
  refine va_put (D := D) (ci := 3) (v := .int mc) (ty := .int) (C := RJx35411) (T := TJx35411) (N := 4) hx hb hts (fun w h => zx_Gc (uz_Jx35411 w h)) tyJx35411 tyJx35411_ok nmJx35411 hown hK hP hD hS 0 rfl rfl 2 (by decide) (hts (.fieldLink RJx35411 22 "java/util/ArrayList$Itr" "expectedModCount" "I") (zx_Gc mm_1685)) (fun _ h9 => h9) rfl (by decide +kernel) rfl rfl (Nat.le_of_ble_eq_true rfl) dJx35411_init_45d68_22 (fun H locs hP hD hS => ?_)
  have hP : va_P D vwCl [(it, .inr (3, [.int cu, .int (-1), .int mc, .ref pa])), (pa, .inr (4, [.int mc, .ref el, .int n]))] H := hP
  have hD : va_D A [(it, .inr (3, [.int cu, .int (-1), .int mc, .ref pa])), (pa, .inr (4, [.int mc, .ref el, .int n]))] := hD
  have hP9 := hP.sub (ws' := [(it, .inr (3, [.int cu, .int (-1), .int mc, .ref pa])), (pa, .inr (4, [.int mc, .ref el, .int n]))]) [0, 1] rfl
  have hD9 := hD.sub (ws' := [(it, .inr (3, [.int cu, .int (-1), .int mc, .ref pa])), (pa, .inr (4, [.int mc, .ref el, .int n]))]) [0, 1] (by decide) rfl
  exact W.vret hx hb hr (fun t ht hW => ⟨⟨(), rfl, trivial, zx_fin hP9 hD9 hK ht hW⟩, hS.F ht⟩) hS.2.2 dJx35411_init_45d68_25
set_option maxHeartbeats 4000000 in
set_option maxRecDepth 100000 in
theorem c_AL_iterator (l : Launch) (hst : l.stackTraces = false) (D : va_G) (cy : Nat → ClassId) (ed sz : Nat) (pa : Nat) (el : Nat) (mc : Int32) (n : Int32) : Met l yJx4a65c_iterator_32c93 wzJx4a65c_iterator_32c93 ({ frames := 2, cells := 1, slots := 4, locals := 33 }) (zx_Pc D cy ed sz [.ref pa] [(pa, .inr (4, [.int mc, .ref el, .int n]))]) (va_Qr (fun (u9 : Unit) => True) (fun (u9 : Unit) (ra : Nat) (t9 : State) => zx_At D cy (va_A [(pa, .inr (4, [.int mc, .ref el, .int n]))] sz) [(ra, .inr (3, [.int 0, .int (-1), .int mc, .ref pa])), (pa, .inr (4, [.int mc, .ref el, .int n]))] t9) (va_A [(pa, .inr (4, [.int mc, .ref el, .int n]))] sz)) 1 4 (va_A [(pa, .inr (4, [.int mc, .ref el, .int n]))] sz) := by
  refine Met.ofW (cc := cJx4a65c_iterator_32c93) (maxL := 1) (ret := (some (.object "java/util/Iterator"))) (by decide) rfl ?_
  intro p e s m args below meth c s₁ B hml hv
  obtain ⟨rfl, hsz, hP, hK, hD0, hZ, hN⟩ := hv
  have hx := B.exec
  have hb := B.bytes
  have hr := B.returns
  have hts := atoms_spec (ws := wzJx4a65c_iterator_32c93) B.pre
  have hown : s.vm.findClass RJx4a65c = some m.cls := findClass_of_methodNamed B.named
  have hlocks := B.notSynchronized
  subst hsz
  have hD := hD0.self (sz := s.heap.size)
  generalize hAe : va_A [(pa, .inr (4, [.int mc, .ref el, .int n]))] s.heap.size = A at hD hZ ⊢
  have hA : ∀ q : Nat, s.heap.size ≤ q → A q := fun q h => by rw [← hAe]; exact Or.inr h
  have hS : va_S A s.heap s.heap [] := va_S.rf
  have hP : va_P D vwCl [(pa, .inr (4, [.int mc, .ref el, .int n]))] s.heap := hP
  have hl := lv_entry ([.ref pa]) (n := 1) (Nat.le_of_ble_eq_true rfl)
  rw [lg_entry_eq]
  generalize (lg_sl ([.ref pa]) ++ List.replicate (1 - (lg_sl ([.ref pa])).length) Slot.unset).toArray = ls at hl ⊢
  have hl : lv_has ls 1 [(0, .ref pa)] := hl
  refine va_new (ci := 3) (fs := [.int 0, .int 0, .int 0, .null]) (C := RJx35411) (T := TJx35411) (N := 4) hx hb hts (fun w h => zx_Gc (uz_Jx35411 w h)) tyJx35411 tyJx35411_ok hown (hts (.classLink RJx4a65c 267 RJx35411) (zx_Gc mm_1677)) (hts (.instantiable RJx35411 4) (zx_Gc mm_1678)) (hts (.initialized RJx35411) (zx_Gc mm_93)) hK hP hD hS hA rfl (fun j hj => by rcases (show j = 0 ∨ j = 1 ∨ j = 2 ∨ j = 3 by omega) with rfl | rfl | rfl | rfl <;> rfl) (Nat.le_of_ble_eq_true rfl) (Nat.le_of_ble_eq_true rfl) dJx4a65c_iterator_32c93_0 (fun q_219 H hP hD hS => ?_)
  have hP : va_P D vwCl [(pa, .inr (4, [.int mc, .ref el, .int n])), (q_219, .inr (3, [.int 0, .int 0, .int 0, .null]))] H := hP
  have hD : va_D A [(pa, .inr (4, [.int mc, .ref el, .int n])), (q_219, .inr (3, [.int 0, .int 0, .int 0, .null]))] := hD
  refine W.widen (k := 1) (n := 4) (Nat.le_of_ble_eq_true rfl) (Nat.le_of_ble_eq_true rfl) ?_
  refine lv_dup hx hb dJx4a65c_iterator_32c93_3 rfl ?_
  refine lv_aload_n hx hb dJx4a65c_iterator_32c93_4 rfl (lv_at hl 0 rfl) ?_
  have hPc := hP.sub (ws' := [(q_219, .inr (3, [.int 0, .int 0, .int 0, .null])), (pa, .inr (4, [.int mc, .ref el, .int n]))]) [1, 0] rfl
  have hDc := hD.sub (ws' := [(q_219, .inr (3, [.int 0, .int 0, .int 0, .null])), (pa, .inr (4, [.int mc, .ref el, .int n]))]) [1, 0] (by decide) rfl
  have hFc := va_free (wc := [(q_219, .inr (3, [.int 0, .int 0, .int 0, .null])), (pa, .inr (4, [.int mc, .ref el, .int n]))]) hD hS hA [1, 0] rfl
  refine va_callv (va_runI (As := [.ref pa]) (rest := [.ref q_219]) ⟨hx, hb, hml, hown, hts⟩ (c_Itr_init l hst D cy ed H.size q_219 pa el mc n 0 0 0) (cwI 1 hts (zx_GI mm_1681) rfl rfl rfl (hts (.initialized RJx35411) (zx_Gc mm_93)) (hts (.methodLink RJx4a65c 269 yJx35411_init_45d68) (zx_Gc mm_1679)) (hts (.instanceMethod yJx35411_init_45d68) (zx_Gc mm_1680)) rfl (by decide +kernel) ⟨(Nat.le_of_ble_eq_true rfl), (Nat.le_of_ble_eq_true rfl)⟩) ⟨zx_blind, zx_give hPc hK hDc hS hFc hZ hN⟩ rfl rfl hl.1 rfl (lv_room (Nat.le_of_ble_eq_true rfl)) dJx4a65c_iterator_32c93_5 ⟨(Nat.le_of_ble_eq_true rfl), (Nat.le_of_ble_eq_true rfl)⟩) hS (fun q _ h => hFc q h) hFc (fun u t H1 locs ht hvm hw hB hz1 hk1 hS => ?_)
  obtain ⟨hP, hD⟩ := zx_join (wr := []) (w1 := [(q_219, .inr (3, [.int 0, .int (-1), .int mc, .ref pa])), (pa, .inr (4, [.int mc, .ref el, .int n]))]) [1, 0] [] rfl rfl (by decide) (by decide) hP hD hk1 hFc hB ht
  generalize H1 = H at hP hS ⊢
  have hP : va_P D vwCl [(q_219, .inr (3, [.int 0, .int (-1), .int mc, .ref pa])), (pa, .inr (4, [.int mc, .ref el, .int n]))] H := hP
  have hD : va_D A [(q_219, .inr (3, [.int 0, .int (-1), .int mc, .ref pa])), (pa, .inr (4, [.int mc, .ref el, .int n]))] := hD
  refine W.widen (k := 1) (n := 4) (Nat.le_of_ble_eq_true rfl) (Nat.le_of_ble_eq_true rfl) ?_
  have hP9 := hP.sub (ws' := [(q_219, .inr (3, [.int 0, .int (-1), .int mc, .ref pa])), (pa, .inr (4, [.int mc, .ref el, .int n]))]) [0, 1] rfl
  have hD9 := hD.sub (ws' := [(q_219, .inr (3, [.int 0, .int (-1), .int mc, .ref pa])), (pa, .inr (4, [.int mc, .ref el, .int n]))]) [0, 1] (by decide) rfl
  exact W.aret (v := .ref q_219) hx hb hr (.inl ⟨_, rfl⟩) (.inr ⟨_, rfl⟩) (fun t ht hW => ⟨⟨(), q_219, rfl, trivial, zx_fin hP9 hD9 hK ht hW⟩, hS.F ht⟩) hS.2.2 dJx4a65c_iterator_32c93_8
set_option maxHeartbeats 4000000 in
set_option maxRecDepth 100000 in
theorem c_Itr_hasNext0 (l : Launch) (hst : l.stackTraces = false) (D : va_G) (cy : Nat → ClassId) (ed sz : Nat) (it : Nat) (pa : Nat) (el : Nat) (mc : Int32) (lr : Int32) (xm : Int32) : Met l yJx35411_hasNext_aae02 wzJx35411_hasNext_aae02 ({ frames := 0, cells := 0, slots := 0, locals := 0 }) (zx_Pc D cy ed sz [.ref it] [(it, .inr (3, [.int 0, .int lr, .int xm, .ref pa])), (pa, .inr (4, [.int mc, .ref el, .int 0]))]) (va_Qi (fun (r9 : Int32) (u9 : Unit) => r9 = 0) (fun (u9 : Unit) (t9 : State) => zx_At D cy (va_A [(it, .inr (3, [.int 0, .int lr, .int xm, .ref pa])), (pa, .inr (4, [.int mc, .ref el, .int 0]))] sz) [(it, .inr (3, [.int 0, .int lr, .int xm, .ref pa])), (pa, .inr (4, [.int mc, .ref el, .int 0]))] t9) (va_A [(it, .inr (3, [.int 0, .int lr, .int xm, .ref pa])), (pa, .inr (4, [.int mc, .ref el, .int 0]))] sz)) 0 0 (va_A [(it, .inr (3, [.int 0, .int lr, .int xm, .ref pa])), (pa, .inr (4, [.int mc, .ref el, .int 0]))] sz) := by
  refine Met.ofW (cc := cJx35411_hasNext_aae02) (maxL := 1) (ret := (some .boolean)) (by decide) rfl ?_
  intro p e s m args below meth c s₁ B hml hv
  obtain ⟨rfl, hsz, hP, hK, hD0, hZ, hN⟩ := hv
  have hx := B.exec
  have hb := B.bytes
  have hr := B.returns
  have hts := atoms_spec (ws := wzJx35411_hasNext_aae02) B.pre
  have hown : s.vm.findClass RJx35411 = some m.cls := findClass_of_methodNamed B.named
  have hlocks := B.notSynchronized
  subst hsz
  have hD := hD0.self (sz := s.heap.size)
  generalize hAe : va_A [(it, .inr (3, [.int 0, .int lr, .int xm, .ref pa])), (pa, .inr (4, [.int mc, .ref el, .int 0]))] s.heap.size = A at hD hZ ⊢
  have hA : ∀ q : Nat, s.heap.size ≤ q → A q := fun q h => by rw [← hAe]; exact Or.inr h
  have hS : va_S A s.heap s.heap [] := va_S.rf
  have hP : va_P D vwCl [(it, .inr (3, [.int 0, .int lr, .int xm, .ref pa])), (pa, .inr (4, [.int mc, .ref el, .int 0]))] s.heap := hP
  have hl := lv_entry ([.ref it]) (n := 1) (Nat.le_of_ble_eq_true rfl)
  rw [lg_entry_eq]
  generalize (lg_sl ([.ref it]) ++ List.replicate (1 - (lg_sl ([.ref it])).length) Slot.unset).toArray = ls at hl ⊢
  have hl : lv_has ls 1 [(0, .ref it)] := hl
  refine lv_aload_n hx hb dJx35411_hasNext_aae02_0 rfl (lv_at hl 0 rfl) ?_
  refine va_get (D := D) (ci := 3) (v := .int 0) (C := RJx35411) (T := TJx35411) (N := 4) hx hb hts (fun w h => zx_Gc (uz_Jx35411 w h)) hown hK hP 0 rfl rfl 0 (by decide) (hts (.fieldLink RJx35411 25 "java/util/ArrayList$Itr" "cursor" "I") (zx_Gc mm_1683)) (fun _ h9 => h9) rfl dJx35411_hasNext_aae02_1 ?_
  refine lv_aload_n hx hb dJx35411_hasNext_aae02_4 rfl (lv_at hl 0 rfl) ?_
  refine va_get (D := D) (ci := 3) (v := .ref pa) (C := RJx35411) (T := TJx35411) (N := 4) hx hb hts (fun w h => zx_Gc (uz_Jx35411 w h)) hown hK hP 0 rfl rfl 3 (by decide) (hts (.fieldLink RJx35411 1 "java/util/ArrayList$Itr" "this$0" "Ljava/util/ArrayList;") (zx_Gc mm_1686)) (fun _ h9 => h9) rfl dJx35411_hasNext_aae02_5 ?_
  refine va_getN (host := "java/util/ArrayList") (ref := "java/util/ArrayList") (D := D) (ci := 4) (v := .int 0) (C := RJx4a65c) (T := TJx4a65c) (N := 3) hx hb hts (fun w h => zx_Gc (uz_Jx4a65c w h)) hown hK hP 1 rfl rfl 2 (by decide) (va_Nw.use rfl (hN.1 _ _ _ _ _ _ (List.mem_of_getElem? (i := 215) (by decide +kernel)))) (fun _ h9 => h9) rfl dJx35411_hasNext_aae02_8 ?_
  refine lv_icmp_eq (tgt := 18) hx hb dJx35411_hasNext_aae02_11 (by decide) (fun _ => ?_) (fun c_220 => absurd (by decide) c_220)
  refine lv_iconst (v := 0) hx hb dJx35411_hasNext_aae02_18 (by decide) ?_
  have hP9 := hP.sub (ws' := [(it, .inr (3, [.int 0, .int lr, .int xm, .ref pa])), (pa, .inr (4, [.int mc, .ref el, .int 0]))]) [0, 1] rfl
  have hD9 := hD.sub (ws' := [(it, .inr (3, [.int 0, .int lr, .int xm, .ref pa])), (pa, .inr (4, [.int mc, .ref el, .int 0]))]) [0, 1] (by decide) rfl
  exact W.zret (v := 0) hx hb hr rfl (fun t ht hW => ⟨⟨0, (), rfl, rfl, zx_fin hP9 hD9 hK ht hW⟩, hS.F ht⟩) hS.2.2 dJx35411_hasNext_aae02_19
set_option maxHeartbeats 4000000 in
set_option maxRecDepth 100000 in
theorem c_AL_grow1 (l : Launch) (hst : l.stackTraces = false) (D : va_G) (cy : Nat → ClassId) (ed sz : Nat) (pa : Nat) (mc : Int32) : Met l yJx4a65c_grow_92f84 wzJx4a65c_grow_92f84 ({ frames := 1, cells := 1, slots := 10, locals := 14 }) (zx_Pc D cy ed sz [.ref pa, .int 1] [(pa, .inr (4, [.int mc, .ref ed, .int 0]))]) (va_Qr (fun (u9 : Unit) => True) (fun (u9 : Unit) (ra : Nat) (t9 : State) => zx_At D cy (va_A [(pa, .inr (4, [.int mc, .ref ed, .int 0]))] sz) [(pa, .inr (4, [.int mc, .ref ra, .int 0])), (ra, .inl (cy 2, 10, .inr (.inr (.inr (.inr (fun _ => none))))))] t9) (va_A [(pa, .inr (4, [.int mc, .ref ed, .int 0]))] sz)) 1 10 (va_A [(pa, .inr (4, [.int mc, .ref ed, .int 0]))] sz) := by
  refine Met.ofW (cc := cJx4a65c_grow_92f84) (maxL := 4) (ret := (some (.array (.object "java/lang/Object")))) (by decide) rfl ?_
  intro p e s m args below meth c s₁ B hml hv
  obtain ⟨rfl, hsz, hP, hK, hD0, hZ, hN⟩ := hv
  have hx := B.exec
  have hb := B.bytes
  have hr := B.returns
  have hts := atoms_spec (ws := wzJx4a65c_grow_92f84) B.pre
  have hown : s.vm.findClass RJx4a65c = some m.cls := findClass_of_methodNamed B.named
  have hlocks := B.notSynchronized
  subst hsz
  have hD := hD0.self (sz := s.heap.size)
  generalize hAe : va_A [(pa, .inr (4, [.int mc, .ref ed, .int 0]))] s.heap.size = A at hD hZ ⊢
  have hA : ∀ q : Nat, s.heap.size ≤ q → A q := fun q h => by rw [← hAe]; exact Or.inr h
  have hS : va_S A s.heap s.heap [] := va_S.rf
  have hP : va_P D vwCl [(pa, .inr (4, [.int mc, .ref ed, .int 0]))] s.heap := hP
  have hl := lv_entry ([.ref pa, .int 1]) (n := 4) (Nat.le_of_ble_eq_true rfl)
  rw [lg_entry_eq]
  generalize (lg_sl ([.ref pa, .int 1]) ++ List.replicate (4 - (lg_sl ([.ref pa, .int 1])).length) Slot.unset).toArray = ls at hl ⊢
  have hl : lv_has ls 4 [(0, .ref pa), (1, .int 1)] := hl
  refine lv_aload_n hx hb dJx4a65c_grow_92f84_0 rfl (lv_at hl 0 rfl) ?_
  refine va_get (D := D) (ci := 4) (v := .ref ed) (C := RJx4a65c) (T := TJx4a65c) (N := 3) hx hb hts (fun w h => zx_Gc (uz_Jx4a65c w h)) hown hK hP 0 rfl rfl 1 (by decide) (hts (.fieldLink RJx4a65c 9 "java/util/ArrayList" "elementData" "[Ljava/lang/Object;") (zx_Gc mm_213)) (fun _ h9 => h9) rfl dJx4a65c_grow_92f84_1 ?_
  refine va_tlen (v := 0) hx hb hZ.2.2.2 hS rfl dJx4a65c_grow_92f84_4 ?_
  refine lv_istore_n (lv' := [(2, .int 0), (0, .ref pa), (1, .int 1)]) hx hb dJx4a65c_grow_92f84_5 rfl hl (by decide) rfl (fun ls hl => ?_)
  refine lv_iload_n hx hb dJx4a65c_grow_92f84_6 rfl (lv_at hl 0 rfl) ?_
  refine lv_if_gt (tgt := 20) hx hb dJx4a65c_grow_92f84_7 (by decide) (fun c_221 => absurd c_221 (by decide)) (fun _ => ?_)
  refine lv_aload_n hx hb dJx4a65c_grow_92f84_10 rfl (lv_at hl 1 rfl) ?_
  refine va_get (D := D) (ci := 4) (v := .ref ed) (C := RJx4a65c) (T := TJx4a65c) (N := 3) hx hb hts (fun w h => zx_Gc (uz_Jx4a65c w h)) hown hK hP 0 rfl rfl 1 (by decide) (hts (.fieldLink RJx4a65c 9 "java/util/ArrayList" "elementData" "[Ljava/lang/Object;") (zx_Gc mm_213)) (fun _ h9 => h9) rfl dJx4a65c_grow_92f84_11 ?_
  refine va_gets hx hb hZ.2.2.1 hS hown (hts (.fieldLink RJx4a65c 39 "java/util/ArrayList" "DEFAULTCAPACITY_EMPTY_ELEMENTDATA" "[Ljava/lang/Object;") (zx_Gc mm_211)) (fun _ h9 => h9) dJx4a65c_grow_92f84_14 ?_
  refine lv_acmp_eq (rx := some ed) (ry := some ed) (tgt := 45) hx hb dJx4a65c_grow_92f84_17 (by decide) (fun _ => ?_) (fun q9 => absurd rfl q9)
  refine lv_aload_n hx hb dJx4a65c_grow_92f84_45 rfl (lv_at hl 1 rfl) ?_
  refine lv_bipush (v := 10) hx hb dJx4a65c_grow_92f84_46 (by decide) ?_
  refine lv_iload_n hx hb dJx4a65c_grow_92f84_48 rfl (lv_at hl 2 rfl) ?_
  refine va_mmax hx hb (hml.trans hl.1.symm) hown (hts (.methodLink RJx4a65c 79 Lib.Math.max.name) (zx_Gc mm_835)) (hts (.static Lib.Math.max.name) (zx_Gc mm_279)) (hts (.initialized "java/lang/Math") (zx_Gc mm_86)) (hts (.code Lib.Math.max.name Lib.Math.max.code 2 (some .int)) (zx_Gc mm_280)) (Nat.le_of_ble_eq_true rfl) (Nat.le_of_ble_eq_true rfl) (Nat.le_of_ble_eq_true rfl) (Nat.le_of_ble_eq_true rfl) dJx4a65c_grow_92f84_49 ?_
  refine lv_topi (fun y9 ey9 => ?_)
  obtain rfl : y9 = 10 := by rw [ey9] <;> decide
  refine va_newq (C := "java/lang/Object") (N' := 10) hx hb hown (hts (.classLink RJx4a65c 7 "java/lang/Object") (zx_Gc mm_836)) hN.2.2.2.2.2.2.2 hK hP hD hS hA (by decide) (by decide) (by decide) (Nat.le_of_ble_eq_true rfl) (Nat.le_of_ble_eq_true rfl) dJx4a65c_grow_92f84_52 (fun q_222 cA9 H hK9 hP hD hS => ?_)
  obtain rfl := zx_same (c0 := cy 2) 2 rfl hK9
  have hP : va_P D vwCl [(pa, .inr (4, [.int mc, .ref ed, .int 0])), (q_222, .inl (cy 2, 10, .inr (.inr (.inr (.inr (fun _ => none))))))] H := hP
  have hD : va_D A [(pa, .inr (4, [.int mc, .ref ed, .int 0])), (q_222, .inl (cy 2, 10, .inr (.inr (.inr (.inr (fun _ => none))))))] := hD
  refine W.widen (k := 1) (n := 10) (Nat.le_of_ble_eq_true rfl) (Nat.le_of_ble_eq_true rfl) ?_
  refine lv_dup_x1 hx hb dJx4a65c_grow_92f84_55 rfl rfl ?_
  refine va_put (D := D) (ci := 4) (v := .ref q_222) (ty := .array (.object "java/lang/Object")) (C := RJx4a65c) (T := TJx4a65c) (N := 3) hx hb hts (fun w h => zx_Gc (uz_Jx4a65c w h)) tyJx4a65c tyJx4a65c_ok nmJx4a65c hown hK hP hD hS 0 rfl rfl 1 (by decide) (hts (.fieldLink RJx4a65c 9 "java/util/ArrayList" "elementData" "[Ljava/lang/Object;") (zx_Gc mm_213)) (fun _ h9 => h9) rfl (by decide +kernel) rfl rfl (Nat.le_of_ble_eq_true rfl) dJx4a65c_grow_92f84_56 (fun H locs hP hD hS => ?_)
  have hP : va_P D vwCl [(pa, .inr (4, [.int mc, .ref q_222, .int 0])), (q_222, .inl (cy 2, 10, .inr (.inr (.inr (.inr (fun _ => none))))))] H := hP
  have hD : va_D A [(pa, .inr (4, [.int mc, .ref q_222, .int 0])), (q_222, .inl (cy 2, 10, .inr (.inr (.inr (.inr (fun _ => none))))))] := hD
  have hP9 := hP.sub (ws' := [(pa, .inr (4, [.int mc, .ref q_222, .int 0])), (q_222, .inl (cy 2, 10, .inr (.inr (.inr (.inr (fun _ => none))))))]) [0, 1] rfl
  have hD9 := hD.sub (ws' := [(pa, .inr (4, [.int mc, .ref q_222, .int 0])), (q_222, .inl (cy 2, 10, .inr (.inr (.inr (.inr (fun _ => none))))))]) [0, 1] (by decide) rfl
  exact W.aret (v := .ref q_222) hx hb hr (.inr ⟨_, rfl⟩) (.inr ⟨_, rfl⟩) (fun t ht hW => ⟨⟨(), q_222, rfl, trivial, zx_fin hP9 hD9 hK ht hW⟩, hS.F ht⟩) hS.2.2 dJx4a65c_grow_92f84_59
set_option maxHeartbeats 4000000 in
set_option maxRecDepth 100000 in
theorem c_AL_grow0 (l : Launch) (hst : l.stackTraces = false) (D : va_G) (cy : Nat → ClassId) (ed sz : Nat) (pa : Nat) (mc : Int32) : Met l yJx4a65c_grow_d5877 wzJx4a65c_grow_d5877 ({ frames := 2, cells := 1, slots := 10, locals := 37 }) (zx_Pc D cy ed sz [.ref pa] [(pa, .inr (4, [.int mc, .ref ed, .int 0]))]) (va_Qr (fun (u9 : Unit) => True) (fun (u9 : Unit) (ra : Nat) (t9 : State) => zx_At D cy (va_A [(pa, .inr (4, [.int mc, .ref ed, .int 0]))] sz) [(pa, .inr (4, [.int mc, .ref ra, .int 0])), (ra, .inl (cy 2, 10, .inr (.inr (.inr (.inr (fun _ => none))))))] t9) (va_A [(pa, .inr (4, [.int mc, .ref ed, .int 0]))] sz)) 1 10 (va_A [(pa, .inr (4, [.int mc, .ref ed, .int 0]))] sz) := by
  refine Met.ofW (cc := cJx4a65c_grow_d5877) (maxL := 1) (ret := (some (.array (.object "java/lang/Object")))) (by decide) rfl ?_
  intro p e s m args below meth c s₁ B hml hv
  obtain ⟨rfl, hsz, hP, hK, hD0, hZ, hN⟩ := hv
  have hx := B.exec
  have hb := B.bytes
  have hr := B.returns
  have hts := atoms_spec (ws := wzJx4a65c_grow_d5877) B.pre
  have hown : s.vm.findClass RJx4a65c = some m.cls := findClass_of_methodNamed B.named
  have hlocks := B.notSynchronized
  subst hsz
  have hD := hD0.self (sz := s.heap.size)
  generalize hAe : va_A [(pa, .inr (4, [.int mc, .ref ed, .int 0]))] s.heap.size = A at hD hZ ⊢
  have hA : ∀ q : Nat, s.heap.size ≤ q → A q := fun q h => by rw [← hAe]; exact Or.inr h
  have hS : va_S A s.heap s.heap [] := va_S.rf
  have hP : va_P D vwCl [(pa, .inr (4, [.int mc, .ref ed, .int 0]))] s.heap := hP
  have hl := lv_entry ([.ref pa]) (n := 1) (Nat.le_of_ble_eq_true rfl)
  rw [lg_entry_eq]
  generalize (lg_sl ([.ref pa]) ++ List.replicate (1 - (lg_sl ([.ref pa])).length) Slot.unset).toArray = ls at hl ⊢
  have hl : lv_has ls 1 [(0, .ref pa)] := hl
  refine lv_aload_n hx hb dJx4a65c_grow_d5877_0 rfl (lv_at hl 0 rfl) ?_
  refine lv_aload_n hx hb dJx4a65c_grow_d5877_1 rfl (lv_at hl 0 rfl) ?_
  refine va_get (D := D) (ci := 4) (v := .int 0) (C := RJx4a65c) (T := TJx4a65c) (N := 3) hx hb hts (fun w h => zx_Gc (uz_Jx4a65c w h)) hown hK hP 0 rfl rfl 2 (by decide) (hts (.fieldLink RJx4a65c 48 "java/util/ArrayList" "size" "I") (zx_Gc mm_216)) (fun _ h9 => h9) rfl dJx4a65c_grow_d5877_2 ?_
  refine lv_iconst (v := 1) hx hb dJx4a65c_grow_d5877_5 (by decide) ?_
  refine lv_iadd hx hb dJx4a65c_grow_d5877_6 ?_
  refine lv_topi (fun y9 ey9 => ?_)
  obtain rfl : y9 = 1 := by rw [ey9] <;> decide
  have hPc := hP.sub (ws' := [(pa, .inr (4, [.int mc, .ref ed, .int 0]))]) [0] rfl
  have hDc := hD.sub (ws' := [(pa, .inr (4, [.int mc, .ref ed, .int 0]))]) [0] (by decide) rfl
  have hFc := va_free (wc := [(pa, .inr (4, [.int mc, .ref ed, .int 0]))]) hD hS hA [0] rfl
  refine va_callr (va_runV (As := [.int 1]) (rest := []) ⟨hx, hb, hml, hown, hts⟩ (c_AL_grow1 l hst D cy ed s.heap.size pa mc) (cwV 1 hts (zx_GV mm_784 mm_786 mm_7 mm_77 mm_787) rfl rfl rfl (by decide +kernel) ⟨(Nat.le_of_ble_eq_true rfl), (Nat.le_of_ble_eq_true rfl)⟩) ⟨zx_blind, va_recv hK hPc (ci := 4) (q0 := 0) rfl rfl, zx_give hPc hK hDc hS hFc hZ hN⟩ rfl rfl hl.1 rfl (lv_room (Nat.le_of_ble_eq_true rfl)) dJx4a65c_grow_d5877_7 ⟨(Nat.le_of_ble_eq_true rfl), (Nat.le_of_ble_eq_true rfl)⟩) hS (fun q _ h => hFc q h) hFc (fun u ra9 t H1 locs ht hvm hw hB hz1 hk1 hS => ?_)
  obtain ⟨a_223, rfl⟩ : ∃ z9, z9 = ra9 := ⟨_, rfl⟩
  obtain ⟨hP, hD⟩ := zx_join (wr := []) (w1 := [(pa, .inr (4, [.int mc, .ref a_223, .int 0])), (a_223, .inl (cy 2, 10, .inr (.inr (.inr (.inr (fun _ => none))))))]) [0] [] rfl rfl (by decide) (by decide) hP hD hk1 hFc hB ht
  generalize H1 = H at hP hS ⊢
  have hP : va_P D vwCl [(pa, .inr (4, [.int mc, .ref a_223, .int 0])), (a_223, .inl (cy 2, 10, .inr (.inr (.inr (.inr (fun _ => none))))))] H := hP
  have hD : va_D A [(pa, .inr (4, [.int mc, .ref a_223, .int 0])), (a_223, .inl (cy 2, 10, .inr (.inr (.inr (.inr (fun _ => none))))))] := hD
  refine W.widen (k := 1) (n := 10) (Nat.le_of_ble_eq_true rfl) (Nat.le_of_ble_eq_true rfl) ?_
  have hP9 := hP.sub (ws' := [(pa, .inr (4, [.int mc, .ref a_223, .int 0])), (a_223, .inl (cy 2, 10, .inr (.inr (.inr (.inr (fun _ => none))))))]) [0, 1] rfl
  have hD9 := hD.sub (ws' := [(pa, .inr (4, [.int mc, .ref a_223, .int 0])), (a_223, .inl (cy 2, 10, .inr (.inr (.inr (.inr (fun _ => none))))))]) [0, 1] (by decide) rfl
  exact W.aret (v := .ref a_223) hx hb hr (.inr ⟨_, rfl⟩) (.inr ⟨_, rfl⟩) (fun t ht hW => ⟨⟨(), a_223, rfl, trivial, zx_fin hP9 hD9 hK ht hW⟩, hS.F ht⟩) hS.2.2 dJx4a65c_grow_d5877_10
set_option maxHeartbeats 4000000 in
set_option maxRecDepth 100000 in
theorem c_AL_add3 (l : Launch) (hst : l.stackTraces = false) (D : va_G) (cy : Nat → ClassId) (ed sz : Nat) (pa : Nat) (mc : Int32) (pp : Nat) (mo : Nat) (le : Nat) (w0 : Int32) (w1 : Int32) (w2 : Int32) (w3 : Int32) (w4 : Int32) : Met l yJx4a65c_add_72be8 wzJx4a65c_add_72be8 ({ frames := 3, cells := 1, slots := 10, locals := 57 }) (zx_Pc D cy ed sz [.ref pa, .ref pp, .ref ed, .int 0] [(pa, .inr (4, [.int mc, .ref ed, .int 0])), (pp, .inr (17, [.int w0, .int w1, .int w2, .int w3, .int w4, .ref mo, .ref le]))]) (va_Qv (fun (u9 : Nat) => match u9 with | qx => True) (fun (u9 : Nat) (t9 : State) => match u9 with | qx => zx_At D cy (va_A [(pa, .inr (4, [.int mc, .ref ed, .int 0])), (pp, .inr (17, [.int w0, .int w1, .int w2, .int w3, .int w4, .ref mo, .ref le]))] sz) [(pa, .inr (4, [.int mc, .ref qx, .int 1]))] t9) (va_A [(pa, .inr (4, [.int mc, .ref ed, .int 0])), (pp, .inr (17, [.int w0, .int w1, .int w2, .int w3, .int w4, .ref mo, .ref le]))] sz)) 1 10 (va_A [(pa, .inr (4, [.int mc, .ref ed, .int 0])), (pp, .inr (17, [.int w0, .int w1, .int w2, .int w3, .int w4, .ref mo, .ref le]))] sz) := by
  refine Met.ofW (cc := cJx4a65c_add_72be8) (maxL := 4) (ret := none) (by decide) rfl ?_
  intro p e s m args below meth c s₁ B hml hv
  obtain ⟨rfl, hsz, hP, hK, hD0, hZ, hN⟩ := hv
  have hx := B.exec
  have hb := B.bytes
  have hr := B.returns
  have hts := atoms_spec (ws := wzJx4a65c_add_72be8) B.pre
  have hown : s.vm.findClass RJx4a65c = some m.cls := findClass_of_methodNamed B.named
  have hlocks := B.notSynchronized
  subst hsz
  have hD := hD0.self (sz := s.heap.size)
  generalize hAe : va_A [(pa, .inr (4, [.int mc, .ref ed, .int 0])), (pp, .inr (17, [.int w0, .int w1, .int w2, .int w3, .int w4, .ref mo, .ref le]))] s.heap.size = A at hD hZ ⊢
  have hA : ∀ q : Nat, s.heap.size ≤ q → A q := fun q h => by rw [← hAe]; exact Or.inr h
  have hS : va_S A s.heap s.heap [] := va_S.rf
  have hP : va_P D vwCl [(pa, .inr (4, [.int mc, .ref ed, .int 0])), (pp, .inr (17, [.int w0, .int w1, .int w2, .int w3, .int w4, .ref mo, .ref le]))] s.heap := hP
  have hl := lv_entry ([.ref pa, .ref pp, .ref ed, .int 0]) (n := 4) (Nat.le_of_ble_eq_true rfl)
  rw [lg_entry_eq]
  generalize (lg_sl ([.ref pa, .ref pp, .ref ed, .int 0]) ++ List.replicate (4 - (lg_sl ([.ref pa, .ref pp, .ref ed, .int 0])).length) Slot.unset).toArray = ls at hl ⊢
  have hl : lv_has ls 4 [(0, .ref pa), (1, .ref pp), (2, .ref ed), (3, .int 0)] := hl
  refine lv_iload_n hx hb dJx4a65c_add_72be8_0 rfl (lv_at hl 3 rfl) ?_
  refine lv_aload_n hx hb dJx4a65c_add_72be8_1 rfl (lv_at hl 2 rfl) ?_
  refine va_tlen (v := 0) hx hb hZ.2.2.2 hS rfl dJx4a65c_add_72be8_2 ?_
  refine lv_icmp_ne (tgt := 11) hx hb dJx4a65c_add_72be8_3 (by decide) (fun c_224 => absurd c_224 (by decide)) (fun _ => ?_)
  refine lv_aload_n hx hb dJx4a65c_add_72be8_6 rfl (lv_at hl 0 rfl) ?_
  have hPc := hP.sub (ws' := [(pa, .inr (4, [.int mc, .ref ed, .int 0]))]) [0] rfl
  have hDc := hD.sub (ws' := [(pa, .inr (4, [.int mc, .ref ed, .int 0]))]) [0] (by decide) rfl
  have hFc := va_free (wc := [(pa, .inr (4, [.int mc, .ref ed, .int 0]))]) hD hS hA [0] rfl
  refine va_callr (va_runV (As := []) (rest := []) ⟨hx, hb, hml, hown, hts⟩ (c_AL_grow0 l hst D cy ed s.heap.size pa mc) (cwV 0 hts (zx_GV mm_780 mm_782 mm_6 mm_77 mm_783) rfl rfl rfl (by decide +kernel) ⟨(Nat.le_of_ble_eq_true rfl), (Nat.le_of_ble_eq_true rfl)⟩) ⟨zx_blind, va_recv hK hPc (ci := 4) (q0 := 0) rfl rfl, zx_give hPc hK hDc hS hFc hZ hN⟩ rfl rfl hl.1 rfl (lv_room (Nat.le_of_ble_eq_true rfl)) dJx4a65c_add_72be8_7 ⟨(Nat.le_of_ble_eq_true rfl), (Nat.le_of_ble_eq_true rfl)⟩) hS (fun q _ h => hFc q h) hFc (fun u ra9 t H1 locs ht hvm hw hB hz1 hk1 hS => ?_)
  obtain ⟨a_225, rfl⟩ : ∃ z9, z9 = ra9 := ⟨_, rfl⟩
  obtain ⟨hP, hD⟩ := zx_join (wr := [(pp, .inr (17, [.int w0, .int w1, .int w2, .int w3, .int w4, .ref mo, .ref le]))]) (w1 := [(pa, .inr (4, [.int mc, .ref a_225, .int 0])), (a_225, .inl (cy 2, 10, .inr (.inr (.inr (.inr (fun _ => none))))))]) [0] [1] rfl rfl (by decide) (by decide) hP hD hk1 hFc hB ht
  generalize H1 = H at hP hS ⊢
  have hP : va_P D vwCl [(pp, .inr (17, [.int w0, .int w1, .int w2, .int w3, .int w4, .ref mo, .ref le])), (pa, .inr (4, [.int mc, .ref a_225, .int 0])), (a_225, .inl (cy 2, 10, .inr (.inr (.inr (.inr (fun _ => none))))))] H := hP
  have hD : va_D A [(pp, .inr (17, [.int w0, .int w1, .int w2, .int w3, .int w4, .ref mo, .ref le])), (pa, .inr (4, [.int mc, .ref a_225, .int 0])), (a_225, .inl (cy 2, 10, .inr (.inr (.inr (.inr (fun _ => none))))))] := hD
  refine W.widen (k := 1) (n := 10) (Nat.le_of_ble_eq_true rfl) (Nat.le_of_ble_eq_true rfl) ?_
  refine lv_astore_n (lv' := [(2, .ref a_225), (0, .ref pa), (1, .ref pp), (3, .int 0)]) hx hb dJx4a65c_add_72be8_10 rfl hl (by decide) rfl (fun ls hl => ?_)
  refine lv_aload_n hx hb dJx4a65c_add_72be8_11 rfl (lv_at hl 0 rfl) ?_
  refine lv_iload_n hx hb dJx4a65c_add_72be8_12 rfl (lv_at hl 3 rfl) ?_
  refine lv_aload_n hx hb dJx4a65c_add_72be8_13 rfl (lv_at hl 2 rfl) ?_
  refine va_astqO (E := "java/lang/Object") hx hb hK hP hD hS 2 2 0 17 rfl rfl (hN.2.2.1 _ _ (List.mem_of_getElem? (i := 2471) (by decide +kernel))) rfl rfl (zx_bn (by decide)) dJx4a65c_add_72be8_14 (fun H locs hP hD hS => ?_)
  have hP : va_P D vwCl [(pp, .inr (17, [.int w0, .int w1, .int w2, .int w3, .int w4, .ref mo, .ref le])), (pa, .inr (4, [.int mc, .ref a_225, .int 0])), (a_225, .inl (cy 2, 10, .inr (.inr (.inr (.inr (va_up (fun _ => none) (0 : Int32).toNatClampNeg (some pp)))))))] H := hP
  have hD : va_D A [(pp, .inr (17, [.int w0, .int w1, .int w2, .int w3, .int w4, .ref mo, .ref le])), (pa, .inr (4, [.int mc, .ref a_225, .int 0])), (a_225, .inl (cy 2, 10, .inr (.inr (.inr (.inr (va_up (fun _ => none) (0 : Int32).toNatClampNeg (some pp)))))))] := hD
  refine lv_aload_n hx hb dJx4a65c_add_72be8_15 rfl (lv_at hl 1 rfl) ?_
  refine lv_iload_n hx hb dJx4a65c_add_72be8_16 rfl (lv_at hl 3 rfl) ?_
  refine lv_iconst (v := 1) hx hb dJx4a65c_add_72be8_17 (by decide) ?_
  refine lv_iadd hx hb dJx4a65c_add_72be8_18 ?_
  refine lv_topi (fun y9 ey9 => ?_)
  obtain rfl : y9 = 1 := by rw [ey9] <;> decide
  refine va_put (D := D) (ci := 4) (v := .int 1) (ty := .int) (C := RJx4a65c) (T := TJx4a65c) (N := 3) hx hb hts (fun w h => zx_Gc (uz_Jx4a65c w h)) tyJx4a65c tyJx4a65c_ok nmJx4a65c hown hK hP hD hS 1 rfl rfl 2 (by decide) (hts (.fieldLink RJx4a65c 48 "java/util/ArrayList" "size" "I") (zx_Gc mm_216)) (fun _ h9 => h9) rfl (by decide +kernel) rfl rfl (Nat.le_of_ble_eq_true rfl) dJx4a65c_add_72be8_19 (fun H locs hP hD hS => ?_)
  have hP : va_P D vwCl [(pp, .inr (17, [.int w0, .int w1, .int w2, .int w3, .int w4, .ref mo, .ref le])), (pa, .inr (4, [.int mc, .ref a_225, .int 1])), (a_225, .inl (cy 2, 10, .inr (.inr (.inr (.inr (va_up (fun _ => none) (0 : Int32).toNatClampNeg (some pp)))))))] H := hP
  have hD : va_D A [(pp, .inr (17, [.int w0, .int w1, .int w2, .int w3, .int w4, .ref mo, .ref le])), (pa, .inr (4, [.int mc, .ref a_225, .int 1])), (a_225, .inl (cy 2, 10, .inr (.inr (.inr (.inr (va_up (fun _ => none) (0 : Int32).toNatClampNeg (some pp)))))))] := hD
  have hP9 := hP.sub (ws' := [(pa, .inr (4, [.int mc, .ref a_225, .int 1]))]) [1] rfl
  have hD9 := hD.sub (ws' := [(pa, .inr (4, [.int mc, .ref a_225, .int 1]))]) [1] (by decide) rfl
  exact W.vret hx hb hr (fun t ht hW => ⟨⟨a_225, rfl, trivial, zx_fin hP9 hD9 hK ht hW⟩, hS.F ht⟩) hS.2.2 dJx4a65c_add_72be8_22
set_option maxHeartbeats 4000000 in
set_option maxRecDepth 100000 in
theorem c_AL_add1 (l : Launch) (hst : l.stackTraces = false) (D : va_G) (cy : Nat → ClassId) (ed sz : Nat) (pa : Nat) (mc : Int32) (pp : Nat) (mo : Nat) (le : Nat) (w0 : Int32) (w1 : Int32) (w2 : Int32) (w3 : Int32) (w4 : Int32) : Met l yJx4a65c_add_9ea2d wzJx4a65c_add_9ea2d ({ frames := 4, cells := 1, slots := 10, locals := 80 }) (zx_Pc D cy ed sz [.ref pa, .ref pp] [(pa, .inr (4, [.int mc, .ref ed, .int 0])), (pp, .inr (17, [.int w0, .int w1, .int w2, .int w3, .int w4, .ref mo, .ref le]))]) (va_Qi (fun (r9 : Int32) (u9 : Int32 × Nat) => match u9 with | (mx, qx) => r9 = 1) (fun (u9 : Int32 × Nat) (t9 : State) => match u9 with | (mx, qx) => zx_At D cy (va_A [(pa, .inr (4, [.int mc, .ref ed, .int 0])), (pp, .inr (17, [.int w0, .int w1, .int w2, .int w3, .int w4, .ref mo, .ref le]))] sz) [(pa, .inr (4, [.int mx, .ref qx, .int 1]))] t9) (va_A [(pa, .inr (4, [.int mc, .ref ed, .int 0])), (pp, .inr (17, [.int w0, .int w1, .int w2, .int w3, .int w4, .ref mo, .ref le]))] sz)) 1 10 (va_A [(pa, .inr (4, [.int mc, .ref ed, .int 0])), (pp, .inr (17, [.int w0, .int w1, .int w2, .int w3, .int w4, .ref mo, .ref le]))] sz) := by
  refine Met.ofW (cc := cJx4a65c_add_9ea2d) (maxL := 2) (ret := (some .boolean)) (by decide) rfl ?_
  intro p e s m args below meth c s₁ B hml hv
  obtain ⟨rfl, hsz, hP, hK, hD0, hZ, hN⟩ := hv
  have hx := B.exec
  have hb := B.bytes
  have hr := B.returns
  have hts := atoms_spec (ws := wzJx4a65c_add_9ea2d) B.pre
  have hown : s.vm.findClass RJx4a65c = some m.cls := findClass_of_methodNamed B.named
  have hlocks := B.notSynchronized
  subst hsz
  have hD := hD0.self (sz := s.heap.size)
  generalize hAe : va_A [(pa, .inr (4, [.int mc, .ref ed, .int 0])), (pp, .inr (17, [.int w0, .int w1, .int w2, .int w3, .int w4, .ref mo, .ref le]))] s.heap.size = A at hD hZ ⊢
  have hA : ∀ q : Nat, s.heap.size ≤ q → A q := fun q h => by rw [← hAe]; exact Or.inr h
  have hS : va_S A s.heap s.heap [] := va_S.rf
  have hP : va_P D vwCl [(pa, .inr (4, [.int mc, .ref ed, .int 0])), (pp, .inr (17, [.int w0, .int w1, .int w2, .int w3, .int w4, .ref mo, .ref le]))] s.heap := hP
  have hl := lv_entry ([.ref pa, .ref pp]) (n := 2) (Nat.le_of_ble_eq_true rfl)
  rw [lg_entry_eq]
  generalize (lg_sl ([.ref pa, .ref pp]) ++ List.replicate (2 - (lg_sl ([.ref pa, .ref pp])).length) Slot.unset).toArray = ls at hl ⊢
  have hl : lv_has ls 2 [(0, .ref pa), (1, .ref pp)] := hl
  refine lv_aload_n hx hb dJx4a65c_add_9ea2d_0 rfl (lv_at hl 0 rfl) ?_
  refine lv_dup hx hb dJx4a65c_add_9ea2d_1 rfl ?_
  refine va_get (D := D) (ci := 4) (v := .int mc) (C := RJx4a65c) (T := TJx4a65c) (N := 3) hx hb hts (fun w h => zx_Gc (uz_Jx4a65c w h)) hown hK hP 0 rfl rfl 0 (by decide) (hts (.fieldLink RJx4a65c 63 "java/util/ArrayList" "modCount" "I") (zx_Gc mm_220)) (fun x9 h9 => u_same (hts (.sameField "java/util/ArrayList" "java/util/AbstractList" "modCount" "I") (zx_Gc mm_219)) x9 h9) rfl dJx4a65c_add_9ea2d_2 ?_
  refine lv_iconst (v := 1) hx hb dJx4a65c_add_9ea2d_5 (by decide) ?_
  refine lv_iadd hx hb dJx4a65c_add_9ea2d_6 ?_
  refine va_put (D := D) (ci := 4) (v := .int (mc + (1 : Int32))) (ty := .int) (C := RJx4a65c) (T := TJx4a65c) (N := 3) hx hb hts (fun w h => zx_Gc (uz_Jx4a65c w h)) tyJx4a65c tyJx4a65c_ok nmJx4a65c hown hK hP hD hS 0 rfl rfl 0 (by decide) (hts (.fieldLink RJx4a65c 63 "java/util/ArrayList" "modCount" "I") (zx_Gc mm_220)) (fun x9 h9 => u_same (hts (.sameField "java/util/ArrayList" "java/util/AbstractList" "modCount" "I") (zx_Gc mm_219)) x9 h9) rfl (by decide +kernel) rfl rfl (Nat.le_of_ble_eq_true rfl) dJx4a65c_add_9ea2d_7 (fun H locs hP hD hS => ?_)
  have hP : va_P D vwCl [(pa, .inr (4, [.int (mc + (1 : Int32)), .ref ed, .int 0])), (pp, .inr (17, [.int w0, .int w1, .int w2, .int w3, .int w4, .ref mo, .ref le]))] H := hP
  have hD : va_D A [(pa, .inr (4, [.int (mc + (1 : Int32)), .ref ed, .int 0])), (pp, .inr (17, [.int w0, .int w1, .int w2, .int w3, .int w4, .ref mo, .ref le]))] := hD
  refine lv_aload_n hx hb dJx4a65c_add_9ea2d_10 rfl (lv_at hl 0 rfl) ?_
  refine lv_aload_n hx hb dJx4a65c_add_9ea2d_11 rfl (lv_at hl 1 rfl) ?_
  refine lv_aload_n hx hb dJx4a65c_add_9ea2d_12 rfl (lv_at hl 0 rfl) ?_
  refine va_get (D := D) (ci := 4) (v := .ref ed) (C := RJx4a65c) (T := TJx4a65c) (N := 3) hx hb hts (fun w h => zx_Gc (uz_Jx4a65c w h)) hown hK hP 0 rfl rfl 1 (by decide) (hts (.fieldLink RJx4a65c 9 "java/util/ArrayList" "elementData" "[Ljava/lang/Object;") (zx_Gc mm_213)) (fun _ h9 => h9) rfl dJx4a65c_add_9ea2d_13 ?_
  refine lv_aload_n hx hb dJx4a65c_add_9ea2d_16 rfl (lv_at hl 0 rfl) ?_
  refine va_get (D := D) (ci := 4) (v := .int 0) (C := RJx4a65c) (T := TJx4a65c) (N := 3) hx hb hts (fun w h => zx_Gc (uz_Jx4a65c w h)) hown hK hP 0 rfl rfl 2 (by decide) (hts (.fieldLink RJx4a65c 48 "java/util/ArrayList" "size" "I") (zx_Gc mm_216)) (fun _ h9 => h9) rfl dJx4a65c_add_9ea2d_17 ?_
  have hPc := hP.sub (ws' := [(pa, .inr (4, [.int (mc + (1 : Int32)), .ref ed, .int 0])), (pp, .inr (17, [.int w0, .int w1, .int w2, .int w3, .int w4, .ref mo, .ref le]))]) [0, 1] rfl
  have hDc := hD.sub (ws' := [(pa, .inr (4, [.int (mc + (1 : Int32)), .ref ed, .int 0])), (pp, .inr (17, [.int w0, .int w1, .int w2, .int w3, .int w4, .ref mo, .ref le]))]) [0, 1] (by decide) rfl
  have hFc := va_free (wc := [(pa, .inr (4, [.int (mc + (1 : Int32)), .ref ed, .int 0])), (pp, .inr (17, [.int w0, .int w1, .int w2, .int w3, .int w4, .ref mo, .ref le]))]) hD hS hA [0, 1] rfl
  refine va_callv (va_runV (As := [.ref pp, .ref ed, .int 0]) (rest := []) ⟨hx, hb, hml, hown, hts⟩ (c_AL_add3 l hst D cy ed H.size pa (mc + (1 : Int32)) pp mo le w0 w1 w2 w3 w4) (cwV 3 hts (zx_GV mm_776 mm_778 mm_5 mm_77 mm_779) rfl rfl rfl (by decide +kernel) ⟨(Nat.le_of_ble_eq_true rfl), (Nat.le_of_ble_eq_true rfl)⟩) ⟨zx_blind, va_recv hK hPc (ci := 4) (q0 := 0) rfl rfl, zx_give hPc hK hDc hS hFc hZ hN⟩ rfl rfl hl.1 rfl (lv_room (Nat.le_of_ble_eq_true rfl)) dJx4a65c_add_9ea2d_20 ⟨(Nat.le_of_ble_eq_true rfl), (Nat.le_of_ble_eq_true rfl)⟩) hS (fun q _ h => hFc q h) hFc (fun u t H1 locs ht hvm hw hB hz1 hk1 hS => ?_)
  obtain ⟨qx_226, rfl⟩ : ∃ z9, z9 = u := ⟨_, rfl⟩
  obtain ⟨hP, hD⟩ := zx_join (wr := []) (w1 := [(pa, .inr (4, [.int (mc + (1 : Int32)), .ref qx_226, .int 1]))]) [0, 1] [] rfl rfl (by decide) (by decide) hP hD hk1 hFc hB ht
  generalize H1 = H at hP hS ⊢
  have hP : va_P D vwCl [(pa, .inr (4, [.int (mc + (1 : Int32)), .ref qx_226, .int 1]))] H := hP
  have hD : va_D A [(pa, .inr (4, [.int (mc + (1 : Int32)), .ref qx_226, .int 1]))] := hD
  refine W.widen (k := 1) (n := 10) (Nat.le_of_ble_eq_true rfl) (Nat.le_of_ble_eq_true rfl) ?_
  refine lv_iconst (v := 1) hx hb dJx4a65c_add_9ea2d_23 (by decide) ?_
  have hP9 := hP.sub (ws' := [(pa, .inr (4, [.int (mc + (1 : Int32)), .ref qx_226, .int 1]))]) [0] rfl
  have hD9 := hD.sub (ws' := [(pa, .inr (4, [.int (mc + (1 : Int32)), .ref qx_226, .int 1]))]) [0] (by decide) rfl
  exact W.zret (v := 1) hx hb hr rfl (fun t ht hW => ⟨⟨1, ⟨(mc + (1 : Int32)), qx_226⟩, rfl, rfl, zx_fin hP9 hD9 hK ht hW⟩, hS.F ht⟩) hS.2.2 dJx4a65c_add_9ea2d_24
set_option maxHeartbeats 4000000 in
set_option maxRecDepth 100000 in
theorem c_X12_init (l : Launch) (hst : l.stackTraces = false) (D : va_G) (cy : Nat → ClassId) (ed sz : Nat) (pp : Nat) (p0 : Int32) (p1 : Int32) : Met l yX12_init wzX12_init ({ frames := 4, cells := 2, slots := 23, locals := 72 }) (zx_Pc D cy ed sz [.ref pp, .int p0, .int p1] [(pp, .inr (17, [.int 0, .int 0, .int 0, .int 0, .int 0, .null, .null]))]) (va_Qv (fun (u9 : Nat × Nat × Int32 × Int32 × Int32 × Int32 × Int32) => match u9 with | (mo, le, w0, w1, w2, w3, w4) => True) (fun (u9 : Nat × Nat × Int32 × Int32 × Int32 × Int32 × Int32) (t9 : State) => match u9 with | (mo, le, w0, w1, w2, w3, w4) => zx_At D cy (va_A [(pp, .inr (17, [.int 0, .int 0, .int 0, .int 0, .int 0, .null, .null]))] sz) [(pp, .inr (17, [.int w0, .int w1, .int w2, .int w3, .int w4, .ref mo, .ref le]))] t9) (va_A [(pp, .inr (17, [.int 0, .int 0, .int 0, .int 0, .int 0, .null, .null]))] sz)) 2 23 (va_A [(pp, .inr (17, [.int 0, .int 0, .int 0, .int 0, .int 0, .null, .null]))] sz) := by
  refine Met.ofW (cc := cX12_init) (maxL := 4) (ret := none) (by decide) rfl ?_
  intro p e s m args below meth c s₁ B hml hv
  obtain ⟨rfl, hsz, hP, hK, hD0, hZ, hN⟩ := hv
  have hx := B.exec
  have hb := B.bytes
  have hr := B.returns
  have hts := atoms_spec (ws := wzX12_init) B.pre
  have hown : s.vm.findClass RX12 = some m.cls := findClass_of_methodNamed B.named
  have hlocks := B.notSynchronized
  have hin : meth.name = "<init>" := (name_of_methodNamed B.named B.method).1
  subst hsz
  have hD := hD0.self (sz := s.heap.size)
  generalize hAe : va_A [(pp, .inr (17, [.int 0, .int 0, .int 0, .int 0, .int 0, .null, .null]))] s.heap.size = A at hD hZ ⊢
  have hA : ∀ q : Nat, s.heap.size ≤ q → A q := fun q h => by rw [← hAe]; exact Or.inr h
  have hS : va_S A s.heap s.heap [] := va_S.rf
  have hP : va_P D vwCl [(pp, .inr (17, [.int 0, .int 0, .int 0, .int 0, .int 0, .null, .null]))] s.heap := hP
  have hl := lv_entry ([.ref pp, .int p0, .int p1]) (n := 4) (Nat.le_of_ble_eq_true rfl)
  rw [lg_entry_eq]
  generalize (lg_sl ([.ref pp, .int p0, .int p1]) ++ List.replicate (4 - (lg_sl ([.ref pp, .int p0, .int p1])).length) Slot.unset).toArray = ls at hl ⊢
  have hl : lv_has ls 4 [(0, .ref pp), (1, .int p0), (2, .int p1)] := hl
  refine lv_aload_n hx hb dX12_init_0 rfl (lv_at hl 0 rfl) ?_
  refine W.objInit hx hb hown (hts (.methodLink RX12 1 objectInit) (zx_Gc mm_1621)) (hts (.instanceMethod objectInit) (zx_Gc mm_119)) (hts (.code objectInit ⟨#[0xb1]⟩ 1 none) (zx_Gc mm_120)) rfl (by rw [hml]; exact hl.1) rfl dX12_init_1 (Nat.le_of_ble_eq_true rfl) (Nat.le_of_ble_eq_true rfl) ?_
  refine W.eq (g2 := F0 m 4 ls []) rfl ?_
  refine lv_aload_n hx hb dX12_init_4 rfl (lv_at hl 0 rfl) ?_
  refine lv_iconst (v := (-1)) hx hb dX12_init_5 (by decide) ?_
  refine va_put (D := D) (ci := 17) (v := .int (-1)) (ty := .int) (C := RX12) (T := TX12) (N := 7) hx hb hts (fun w h => zx_Gc (uz_X12 w h)) tyX12 tyX12_ok nmX12 hown hK hP hD hS 0 rfl rfl 2 (by decide) (hts (.fieldLink RX12 7 "RefereehallModel$Person" "awayTo" "I") (zx_Gc mm_1628)) (fun _ h9 => h9) rfl (by decide +kernel) rfl rfl (Nat.le_of_ble_eq_true rfl) dX12_init_6 (fun H locs hP hD hS => ?_)
  have hP : va_P D vwCl [(pp, .inr (17, [.int 0, .int 0, .int (-1), .int 0, .int 0, .null, .null]))] H := hP
  have hD : va_D A [(pp, .inr (17, [.int 0, .int 0, .int (-1), .int 0, .int 0, .null, .null]))] := hD
  refine lv_aload_n hx hb dX12_init_9 rfl (lv_at hl 0 rfl) ?_
  refine lv_bipush (v := 20) hx hb dX12_init_10 (by decide) ?_
  refine va_newa (atype := .int) (a0 := (20, .inl (fun _ => 0))) (N' := 20) hx hb (hts (.arrayClass .int) (zx_Gc mm_171)) rfl hK hP hD hS hA (fun _ => rfl) (by decide) (by decide) (Nat.le_of_ble_eq_true rfl) (Nat.le_of_ble_eq_true rfl) (Nat.le_of_ble_eq_true rfl) dX12_init_12 (fun q_227 cA9 H hK9 hP hD hS => ?_)
  obtain rfl := zx_same (c0 := cy 0) 0 rfl hK9
  have hP : va_P D vwCl [(pp, .inr (17, [.int 0, .int 0, .int (-1), .int 0, .int 0, .null, .null])), (q_227, .inl (cy 0, 20, .inl (fun _ => 0)))] H := hP
  have hD : va_D A [(pp, .inr (17, [.int 0, .int 0, .int (-1), .int 0, .int 0, .null, .null])), (q_227, .inl (cy 0, 20, .inl (fun _ => 0)))] := hD
  refine W.widen (k := 1) (n := 20) (Nat.le_of_ble_eq_true rfl) (Nat.le_of_ble_eq_true rfl) ?_
  refine va_putF (D := D) (ci := 17) (v := .ref q_227) (ty := .array .int) (C := RX12) (T := TX12) (N := 7) hx hb hts (fun w h => zx_Gc (uz_X12 w h)) tyX12 tyX12_ok nmX12 hown hK hP hD hS 0 rfl rfl 5 (by decide) (hts (.fieldLink RX12 13 "RefereehallModel$Person" "money" "[I") (zx_Gc mm_1632)) (fun _ h9 => h9) rfl hin rfl (by decide +kernel) rfl rfl (Nat.le_of_ble_eq_true rfl) dX12_init_14 (fun H locs hP hD hS => ?_)
  have hP : va_P D vwCl [(pp, .inr (17, [.int 0, .int 0, .int (-1), .int 0, .int 0, .ref q_227, .null])), (q_227, .inl (cy 0, 20, .inl (fun _ => 0)))] H := hP
  have hD : va_D A [(pp, .inr (17, [.int 0, .int 0, .int (-1), .int 0, .int 0, .ref q_227, .null])), (q_227, .inl (cy 0, 20, .inl (fun _ => 0)))] := hD
  refine lv_aload_n hx hb dX12_init_17 rfl (lv_at hl 0 rfl) ?_
  refine va_new (ci := 4) (fs := [.int 0, .null, .int 0]) (C := RJx4a65c) (T := TJx4a65c) (N := 3) hx hb hts (fun w h => zx_Gc (uz_Jx4a65c w h)) tyJx4a65c tyJx4a65c_ok hown (hts (.classLink RX12 17 RJx4a65c) (zx_Gc mm_1622)) (hts (.instantiable RJx4a65c 3) (zx_Gc mm_200)) (hts (.initialized RJx4a65c) (zx_Gc mm_77)) hK hP hD hS hA rfl (fun j hj => by rcases (show j = 0 ∨ j = 1 ∨ j = 2 by omega) with rfl | rfl | rfl <;> rfl) (Nat.le_of_ble_eq_true rfl) (Nat.le_of_ble_eq_true rfl) dX12_init_18 (fun q_228 H hP hD hS => ?_)
  have hP : va_P D vwCl [(pp, .inr (17, [.int 0, .int 0, .int (-1), .int 0, .int 0, .ref q_227, .null])), (q_227, .inl (cy 0, 20, .inl (fun _ => 0))), (q_228, .inr (4, [.int 0, .null, .int 0]))] H := hP
  have hD : va_D A [(pp, .inr (17, [.int 0, .int 0, .int (-1), .int 0, .int 0, .ref q_227, .null])), (q_227, .inl (cy 0, 20, .inl (fun _ => 0))), (q_228, .inr (4, [.int 0, .null, .int 0]))] := hD
  refine W.widen (k := 2) (n := 23) (Nat.le_of_ble_eq_true rfl) (Nat.le_of_ble_eq_true rfl) ?_
  refine lv_dup hx hb dX12_init_21 rfl ?_
  have hPc := hP.sub (ws' := [(q_228, .inr (4, [.int 0, .null, .int 0]))]) [2] rfl
  have hDc := hD.sub (ws' := [(q_228, .inr (4, [.int 0, .null, .int 0]))]) [2] (by decide) rfl
  have hFc := va_free (wc := [(q_228, .inr (4, [.int 0, .null, .int 0]))]) hD hS hA [2] rfl
  refine va_callv (va_runI (As := []) (rest := [.ref q_228, .ref pp]) ⟨hx, hb, hml, hown, hts⟩ (c_AL_init l hst D cy ed H.size q_228 0) (cwI 0 hts (zx_GI mm_203) rfl rfl rfl (hts (.initialized RJx4a65c) (zx_Gc mm_77)) (hts (.methodLink RX12 19 yJx4a65c_init_da8c8) (zx_Gc mm_1623)) (hts (.instanceMethod yJx4a65c_init_da8c8) (zx_Gc mm_202)) rfl (by decide +kernel) ⟨(Nat.le_of_ble_eq_true rfl), (Nat.le_of_ble_eq_true rfl)⟩) ⟨zx_blind, zx_give hPc hK hDc hS hFc hZ hN⟩ rfl rfl hl.1 rfl (lv_room (Nat.le_of_ble_eq_true rfl)) dX12_init_22 ⟨(Nat.le_of_ble_eq_true rfl), (Nat.le_of_ble_eq_true rfl)⟩) hS (fun q _ h => hFc q h) hFc (fun u t H1 locs ht hvm hw hB hz1 hk1 hS => ?_)
  obtain ⟨hP, hD⟩ := zx_join (wr := [(pp, .inr (17, [.int 0, .int 0, .int (-1), .int 0, .int 0, .ref q_227, .null])), (q_227, .inl (cy 0, 20, .inl (fun _ => 0)))]) (w1 := [(q_228, .inr (4, [.int 0, .ref ed, .int 0]))]) [2] [0, 1] rfl rfl (by decide) (by decide) hP hD hk1 hFc hB ht
  generalize H1 = H at hP hS ⊢
  have hP : va_P D vwCl [(pp, .inr (17, [.int 0, .int 0, .int (-1), .int 0, .int 0, .ref q_227, .null])), (q_227, .inl (cy 0, 20, .inl (fun _ => 0))), (q_228, .inr (4, [.int 0, .ref ed, .int 0]))] H := hP
  have hD : va_D A [(pp, .inr (17, [.int 0, .int 0, .int (-1), .int 0, .int 0, .ref q_227, .null])), (q_227, .inl (cy 0, 20, .inl (fun _ => 0))), (q_228, .inr (4, [.int 0, .ref ed, .int 0]))] := hD
  refine W.widen (k := 2) (n := 23) (Nat.le_of_ble_eq_true rfl) (Nat.le_of_ble_eq_true rfl) ?_
  refine va_putF (D := D) (ci := 17) (v := .ref q_228) (ty := .object "java/util/ArrayList") (C := RX12) (T := TX12) (N := 7) hx hb hts (fun w h => zx_Gc (uz_X12 w h)) tyX12 tyX12_ok nmX12 hown hK hP hD hS 0 rfl rfl 6 (by decide) (hts (.fieldLink RX12 20 "RefereehallModel$Person" "left" "Ljava/util/ArrayList;") (zx_Gc mm_1634)) (fun _ h9 => h9) rfl hin rfl (by decide +kernel) rfl rfl (Nat.le_of_ble_eq_true rfl) dX12_init_25 (fun H locs hP hD hS => ?_)
  have hP : va_P D vwCl [(pp, .inr (17, [.int 0, .int 0, .int (-1), .int 0, .int 0, .ref q_227, .ref q_228])), (q_227, .inl (cy 0, 20, .inl (fun _ => 0))), (q_228, .inr (4, [.int 0, .ref ed, .int 0]))] H := hP
  have hD : va_D A [(pp, .inr (17, [.int 0, .int 0, .int (-1), .int 0, .int 0, .ref q_227, .ref q_228])), (q_227, .inl (cy 0, 20, .inl (fun _ => 0))), (q_228, .inr (4, [.int 0, .ref ed, .int 0]))] := hD
  refine lv_aload_n hx hb dX12_init_28 rfl (lv_at hl 0 rfl) ?_
  refine lv_iload_n hx hb dX12_init_29 rfl (lv_at hl 1 rfl) ?_
  refine va_put (D := D) (ci := 17) (v := .int p0) (ty := .int) (C := RX12) (T := TX12) (N := 7) hx hb hts (fun w h => zx_Gc (uz_X12 w h)) tyX12 tyX12_ok nmX12 hown hK hP hD hS 0 rfl rfl 1 (by decide) (hts (.fieldLink RX12 24 "RefereehallModel$Person" "house" "I") (zx_Gc mm_1626)) (fun _ h9 => h9) rfl (by decide +kernel) rfl rfl (Nat.le_of_ble_eq_true rfl) dX12_init_30 (fun H locs hP hD hS => ?_)
  have hP : va_P D vwCl [(pp, .inr (17, [.int 0, .int p0, .int (-1), .int 0, .int 0, .ref q_227, .ref q_228])), (q_227, .inl (cy 0, 20, .inl (fun _ => 0))), (q_228, .inr (4, [.int 0, .ref ed, .int 0]))] H := hP
  have hD : va_D A [(pp, .inr (17, [.int 0, .int p0, .int (-1), .int 0, .int 0, .ref q_227, .ref q_228])), (q_227, .inl (cy 0, 20, .inl (fun _ => 0))), (q_228, .inr (4, [.int 0, .ref ed, .int 0]))] := hD
  refine lv_aload_n hx hb dX12_init_33 rfl (lv_at hl 0 rfl) ?_
  refine lv_iload_n hx hb dX12_init_34 rfl (lv_at hl 2 rfl) ?_
  refine va_putF (D := D) (ci := 17) (v := .int p1) (ty := .int) (C := RX12) (T := TX12) (N := 7) hx hb hts (fun w h => zx_Gc (uz_X12 w h)) tyX12 tyX12_ok nmX12 hown hK hP hD hS 0 rfl rfl 0 (by decide) (hts (.fieldLink RX12 27 "RefereehallModel$Person" "words" "I") (zx_Gc mm_1624)) (fun _ h9 => h9) rfl hin rfl (by decide +kernel) rfl rfl (Nat.le_of_ble_eq_true rfl) dX12_init_35 (fun H locs hP hD hS => ?_)
  have hP : va_P D vwCl [(pp, .inr (17, [.int p1, .int p0, .int (-1), .int 0, .int 0, .ref q_227, .ref q_228])), (q_227, .inl (cy 0, 20, .inl (fun _ => 0))), (q_228, .inr (4, [.int 0, .ref ed, .int 0]))] H := hP
  have hD : va_D A [(pp, .inr (17, [.int p1, .int p0, .int (-1), .int 0, .int 0, .ref q_227, .ref q_228])), (q_227, .inl (cy 0, 20, .inl (fun _ => 0))), (q_228, .inr (4, [.int 0, .ref ed, .int 0]))] := hD
  refine lv_iconst (v := 0) hx hb dX12_init_38 (by decide) ?_
  refine lv_istore_n (lv' := [(3, .int 0), (0, .ref pp), (1, .int p0), (2, .int p1)]) hx hb dX12_init_39 rfl hl (by decide) rfl (fun ls hl => ?_)
  refine lv_iload_n hx hb dX12_init_40 rfl (lv_at hl 0 rfl) ?_
  refine lv_bipush (v := 20) hx hb dX12_init_41 (by decide) ?_
  refine lv_icmp_ge (tgt := 59) hx hb dX12_init_43 (by decide) (fun c_229 => absurd c_229 (by decide)) (fun _ => ?_)
  refine lv_aload_n hx hb dX12_init_46 rfl (lv_at hl 1 rfl) ?_
  refine va_get (D := D) (ci := 17) (v := .ref q_227) (C := RX12) (T := TX12) (N := 7) hx hb hts (fun w h => zx_Gc (uz_X12 w h)) hown hK hP 0 rfl rfl 5 (by decide) (hts (.fieldLink RX12 13 "RefereehallModel$Person" "money" "[I") (zx_Gc mm_1632)) (fun _ h9 => h9) rfl dX12_init_47 ?_
  refine lv_iload_n hx hb dX12_init_50 rfl (lv_at hl 0 rfl) ?_
  refine lv_iconst (v := (-1)) hx hb dX12_init_51 (by decide) ?_
  refine va_iast hx hb hK hP hD hS 1 0 rfl rfl (zx_bn (by decide)) dX12_init_52 (fun H locs hP hD hS => ?_)
  have hP : va_P D vwCl [(pp, .inr (17, [.int p1, .int p0, .int (-1), .int 0, .int 0, .ref q_227, .ref q_228])), (q_227, .inl (cy 0, 20, .inl (upd (fun _ => 0) (0 : Int32).toNatClampNeg (-1)))), (q_228, .inr (4, [.int 0, .ref ed, .int 0]))] H := hP
  have hD : va_D A [(pp, .inr (17, [.int p1, .int p0, .int (-1), .int 0, .int 0, .ref q_227, .ref q_228])), (q_227, .inl (cy 0, 20, .inl (upd (fun _ => 0) (0 : Int32).toNatClampNeg (-1)))), (q_228, .inr (4, [.int 0, .ref ed, .int 0]))] := hD
  obtain ⟨f_230, ef_230⟩ : ∃ z9, z9 = (upd (fun _ => 0) (0 : Int32).toNatClampNeg (-1)) := ⟨_, rfl⟩
  rw [← ef_230] at hP hD
  clear ef_230
  refine lv_iinc (v := 1) (lv' := [(3, .int 1), (0, .ref pp), (1, .int p0), (2, .int p1)]) hx hb dX12_init_53 hl (k := 0) rfl (by decide) (by decide) rfl (fun ls hl => ?_)
  refine lv_goto (tgt := 40) hx hb dX12_init_56 (by decide) ?_
  refine lv_iload_n hx hb dX12_init_40 rfl (lv_at hl 0 rfl) ?_
  refine lv_bipush (v := 20) hx hb dX12_init_41 (by decide) ?_
  refine lv_icmp_ge (tgt := 59) hx hb dX12_init_43 (by decide) (fun c_231 => absurd c_231 (by decide)) (fun _ => ?_)
  refine lv_aload_n hx hb dX12_init_46 rfl (lv_at hl 1 rfl) ?_
  refine va_get (D := D) (ci := 17) (v := .ref q_227) (C := RX12) (T := TX12) (N := 7) hx hb hts (fun w h => zx_Gc (uz_X12 w h)) hown hK hP 0 rfl rfl 5 (by decide) (hts (.fieldLink RX12 13 "RefereehallModel$Person" "money" "[I") (zx_Gc mm_1632)) (fun _ h9 => h9) rfl dX12_init_47 ?_
  refine lv_iload_n hx hb dX12_init_50 rfl (lv_at hl 0 rfl) ?_
  refine lv_iconst (v := (-1)) hx hb dX12_init_51 (by decide) ?_
  refine va_iast hx hb hK hP hD hS 1 0 rfl rfl (zx_bn (by decide)) dX12_init_52 (fun H locs hP hD hS => ?_)
  have hP : va_P D vwCl [(pp, .inr (17, [.int p1, .int p0, .int (-1), .int 0, .int 0, .ref q_227, .ref q_228])), (q_227, .inl (cy 0, 20, .inl (upd f_230 (1 : Int32).toNatClampNeg (-1)))), (q_228, .inr (4, [.int 0, .ref ed, .int 0]))] H := hP
  have hD : va_D A [(pp, .inr (17, [.int p1, .int p0, .int (-1), .int 0, .int 0, .ref q_227, .ref q_228])), (q_227, .inl (cy 0, 20, .inl (upd f_230 (1 : Int32).toNatClampNeg (-1)))), (q_228, .inr (4, [.int 0, .ref ed, .int 0]))] := hD
  obtain ⟨f_232, ef_232⟩ : ∃ z9, z9 = (upd f_230 (1 : Int32).toNatClampNeg (-1)) := ⟨_, rfl⟩
  rw [← ef_232] at hP hD
  clear ef_232
  refine lv_iinc (v := 2) (lv' := [(3, .int 2), (0, .ref pp), (1, .int p0), (2, .int p1)]) hx hb dX12_init_53 hl (k := 0) rfl (by decide) (by decide) rfl (fun ls hl => ?_)
  refine lv_goto (tgt := 40) hx hb dX12_init_56 (by decide) ?_
  refine lv_iload_n hx hb dX12_init_40 rfl (lv_at hl 0 rfl) ?_
  refine lv_bipush (v := 20) hx hb dX12_init_41 (by decide) ?_
  refine lv_icmp_ge (tgt := 59) hx hb dX12_init_43 (by decide) (fun c_233 => absurd c_233 (by decide)) (fun _ => ?_)
  refine lv_aload_n hx hb dX12_init_46 rfl (lv_at hl 1 rfl) ?_
  refine va_get (D := D) (ci := 17) (v := .ref q_227) (C := RX12) (T := TX12) (N := 7) hx hb hts (fun w h => zx_Gc (uz_X12 w h)) hown hK hP 0 rfl rfl 5 (by decide) (hts (.fieldLink RX12 13 "RefereehallModel$Person" "money" "[I") (zx_Gc mm_1632)) (fun _ h9 => h9) rfl dX12_init_47 ?_
  refine lv_iload_n hx hb dX12_init_50 rfl (lv_at hl 0 rfl) ?_
  refine lv_iconst (v := (-1)) hx hb dX12_init_51 (by decide) ?_
  refine va_iast hx hb hK hP hD hS 1 0 rfl rfl (zx_bn (by decide)) dX12_init_52 (fun H locs hP hD hS => ?_)
  have hP : va_P D vwCl [(pp, .inr (17, [.int p1, .int p0, .int (-1), .int 0, .int 0, .ref q_227, .ref q_228])), (q_227, .inl (cy 0, 20, .inl (upd f_232 (2 : Int32).toNatClampNeg (-1)))), (q_228, .inr (4, [.int 0, .ref ed, .int 0]))] H := hP
  have hD : va_D A [(pp, .inr (17, [.int p1, .int p0, .int (-1), .int 0, .int 0, .ref q_227, .ref q_228])), (q_227, .inl (cy 0, 20, .inl (upd f_232 (2 : Int32).toNatClampNeg (-1)))), (q_228, .inr (4, [.int 0, .ref ed, .int 0]))] := hD
  obtain ⟨f_234, ef_234⟩ : ∃ z9, z9 = (upd f_232 (2 : Int32).toNatClampNeg (-1)) := ⟨_, rfl⟩
  rw [← ef_234] at hP hD
  clear ef_234
  refine lv_iinc (v := 3) (lv' := [(3, .int 3), (0, .ref pp), (1, .int p0), (2, .int p1)]) hx hb dX12_init_53 hl (k := 0) rfl (by decide) (by decide) rfl (fun ls hl => ?_)
  refine lv_goto (tgt := 40) hx hb dX12_init_56 (by decide) ?_
  refine lv_iload_n hx hb dX12_init_40 rfl (lv_at hl 0 rfl) ?_
  refine lv_bipush (v := 20) hx hb dX12_init_41 (by decide) ?_
  refine lv_icmp_ge (tgt := 59) hx hb dX12_init_43 (by decide) (fun c_235 => absurd c_235 (by decide)) (fun _ => ?_)
  refine lv_aload_n hx hb dX12_init_46 rfl (lv_at hl 1 rfl) ?_
  refine va_get (D := D) (ci := 17) (v := .ref q_227) (C := RX12) (T := TX12) (N := 7) hx hb hts (fun w h => zx_Gc (uz_X12 w h)) hown hK hP 0 rfl rfl 5 (by decide) (hts (.fieldLink RX12 13 "RefereehallModel$Person" "money" "[I") (zx_Gc mm_1632)) (fun _ h9 => h9) rfl dX12_init_47 ?_
  refine lv_iload_n hx hb dX12_init_50 rfl (lv_at hl 0 rfl) ?_
  refine lv_iconst (v := (-1)) hx hb dX12_init_51 (by decide) ?_
  refine va_iast hx hb hK hP hD hS 1 0 rfl rfl (zx_bn (by decide)) dX12_init_52 (fun H locs hP hD hS => ?_)
  have hP : va_P D vwCl [(pp, .inr (17, [.int p1, .int p0, .int (-1), .int 0, .int 0, .ref q_227, .ref q_228])), (q_227, .inl (cy 0, 20, .inl (upd f_234 (3 : Int32).toNatClampNeg (-1)))), (q_228, .inr (4, [.int 0, .ref ed, .int 0]))] H := hP
  have hD : va_D A [(pp, .inr (17, [.int p1, .int p0, .int (-1), .int 0, .int 0, .ref q_227, .ref q_228])), (q_227, .inl (cy 0, 20, .inl (upd f_234 (3 : Int32).toNatClampNeg (-1)))), (q_228, .inr (4, [.int 0, .ref ed, .int 0]))] := hD
  obtain ⟨f_236, ef_236⟩ : ∃ z9, z9 = (upd f_234 (3 : Int32).toNatClampNeg (-1)) := ⟨_, rfl⟩
  rw [← ef_236] at hP hD
  clear ef_236
  refine lv_iinc (v := 4) (lv' := [(3, .int 4), (0, .ref pp), (1, .int p0), (2, .int p1)]) hx hb dX12_init_53 hl (k := 0) rfl (by decide) (by decide) rfl (fun ls hl => ?_)
  refine lv_goto (tgt := 40) hx hb dX12_init_56 (by decide) ?_
  refine lv_iload_n hx hb dX12_init_40 rfl (lv_at hl 0 rfl) ?_
  refine lv_bipush (v := 20) hx hb dX12_init_41 (by decide) ?_
  refine lv_icmp_ge (tgt := 59) hx hb dX12_init_43 (by decide) (fun c_237 => absurd c_237 (by decide)) (fun _ => ?_)
  refine lv_aload_n hx hb dX12_init_46 rfl (lv_at hl 1 rfl) ?_
  refine va_get (D := D) (ci := 17) (v := .ref q_227) (C := RX12) (T := TX12) (N := 7) hx hb hts (fun w h => zx_Gc (uz_X12 w h)) hown hK hP 0 rfl rfl 5 (by decide) (hts (.fieldLink RX12 13 "RefereehallModel$Person" "money" "[I") (zx_Gc mm_1632)) (fun _ h9 => h9) rfl dX12_init_47 ?_
  refine lv_iload_n hx hb dX12_init_50 rfl (lv_at hl 0 rfl) ?_
  refine lv_iconst (v := (-1)) hx hb dX12_init_51 (by decide) ?_
  refine va_iast hx hb hK hP hD hS 1 0 rfl rfl (zx_bn (by decide)) dX12_init_52 (fun H locs hP hD hS => ?_)
  have hP : va_P D vwCl [(pp, .inr (17, [.int p1, .int p0, .int (-1), .int 0, .int 0, .ref q_227, .ref q_228])), (q_227, .inl (cy 0, 20, .inl (upd f_236 (4 : Int32).toNatClampNeg (-1)))), (q_228, .inr (4, [.int 0, .ref ed, .int 0]))] H := hP
  have hD : va_D A [(pp, .inr (17, [.int p1, .int p0, .int (-1), .int 0, .int 0, .ref q_227, .ref q_228])), (q_227, .inl (cy 0, 20, .inl (upd f_236 (4 : Int32).toNatClampNeg (-1)))), (q_228, .inr (4, [.int 0, .ref ed, .int 0]))] := hD
  obtain ⟨f_238, ef_238⟩ : ∃ z9, z9 = (upd f_236 (4 : Int32).toNatClampNeg (-1)) := ⟨_, rfl⟩
  rw [← ef_238] at hP hD
  clear ef_238
  refine lv_iinc (v := 5) (lv' := [(3, .int 5), (0, .ref pp), (1, .int p0), (2, .int p1)]) hx hb dX12_init_53 hl (k := 0) rfl (by decide) (by decide) rfl (fun ls hl => ?_)
  refine lv_goto (tgt := 40) hx hb dX12_init_56 (by decide) ?_
  refine lv_iload_n hx hb dX12_init_40 rfl (lv_at hl 0 rfl) ?_
  refine lv_bipush (v := 20) hx hb dX12_init_41 (by decide) ?_
  refine lv_icmp_ge (tgt := 59) hx hb dX12_init_43 (by decide) (fun c_239 => absurd c_239 (by decide)) (fun _ => ?_)
  refine lv_aload_n hx hb dX12_init_46 rfl (lv_at hl 1 rfl) ?_
  refine va_get (D := D) (ci := 17) (v := .ref q_227) (C := RX12) (T := TX12) (N := 7) hx hb hts (fun w h => zx_Gc (uz_X12 w h)) hown hK hP 0 rfl rfl 5 (by decide) (hts (.fieldLink RX12 13 "RefereehallModel$Person" "money" "[I") (zx_Gc mm_1632)) (fun _ h9 => h9) rfl dX12_init_47 ?_
  refine lv_iload_n hx hb dX12_init_50 rfl (lv_at hl 0 rfl) ?_
  refine lv_iconst (v := (-1)) hx hb dX12_init_51 (by decide) ?_
  refine va_iast hx hb hK hP hD hS 1 0 rfl rfl (zx_bn (by decide)) dX12_init_52 (fun H locs hP hD hS => ?_)
  have hP : va_P D vwCl [(pp, .inr (17, [.int p1, .int p0, .int (-1), .int 0, .int 0, .ref q_227, .ref q_228])), (q_227, .inl (cy 0, 20, .inl (upd f_238 (5 : Int32).toNatClampNeg (-1)))), (q_228, .inr (4, [.int 0, .ref ed, .int 0]))] H := hP
  have hD : va_D A [(pp, .inr (17, [.int p1, .int p0, .int (-1), .int 0, .int 0, .ref q_227, .ref q_228])), (q_227, .inl (cy 0, 20, .inl (upd f_238 (5 : Int32).toNatClampNeg (-1)))), (q_228, .inr (4, [.int 0, .ref ed, .int 0]))] := hD
  obtain ⟨f_240, ef_240⟩ : ∃ z9, z9 = (upd f_238 (5 : Int32).toNatClampNeg (-1)) := ⟨_, rfl⟩
  rw [← ef_240] at hP hD
  clear ef_240
  refine lv_iinc (v := 6) (lv' := [(3, .int 6), (0, .ref pp), (1, .int p0), (2, .int p1)]) hx hb dX12_init_53 hl (k := 0) rfl (by decide) (by decide) rfl (fun ls hl => ?_)
  refine lv_goto (tgt := 40) hx hb dX12_init_56 (by decide) ?_
  refine lv_iload_n hx hb dX12_init_40 rfl (lv_at hl 0 rfl) ?_
  refine lv_bipush (v := 20) hx hb dX12_init_41 (by decide) ?_
  refine lv_icmp_ge (tgt := 59) hx hb dX12_init_43 (by decide) (fun c_241 => absurd c_241 (by decide)) (fun _ => ?_)
  refine lv_aload_n hx hb dX12_init_46 rfl (lv_at hl 1 rfl) ?_
  refine va_get (D := D) (ci := 17) (v := .ref q_227) (C := RX12) (T := TX12) (N := 7) hx hb hts (fun w h => zx_Gc (uz_X12 w h)) hown hK hP 0 rfl rfl 5 (by decide) (hts (.fieldLink RX12 13 "RefereehallModel$Person" "money" "[I") (zx_Gc mm_1632)) (fun _ h9 => h9) rfl dX12_init_47 ?_
  refine lv_iload_n hx hb dX12_init_50 rfl (lv_at hl 0 rfl) ?_
  refine lv_iconst (v := (-1)) hx hb dX12_init_51 (by decide) ?_
  refine va_iast hx hb hK hP hD hS 1 0 rfl rfl (zx_bn (by decide)) dX12_init_52 (fun H locs hP hD hS => ?_)
  have hP : va_P D vwCl [(pp, .inr (17, [.int p1, .int p0, .int (-1), .int 0, .int 0, .ref q_227, .ref q_228])), (q_227, .inl (cy 0, 20, .inl (upd f_240 (6 : Int32).toNatClampNeg (-1)))), (q_228, .inr (4, [.int 0, .ref ed, .int 0]))] H := hP
  have hD : va_D A [(pp, .inr (17, [.int p1, .int p0, .int (-1), .int 0, .int 0, .ref q_227, .ref q_228])), (q_227, .inl (cy 0, 20, .inl (upd f_240 (6 : Int32).toNatClampNeg (-1)))), (q_228, .inr (4, [.int 0, .ref ed, .int 0]))] := hD
  obtain ⟨f_242, ef_242⟩ : ∃ z9, z9 = (upd f_240 (6 : Int32).toNatClampNeg (-1)) := ⟨_, rfl⟩
  rw [← ef_242] at hP hD
  clear ef_242
  refine lv_iinc (v := 7) (lv' := [(3, .int 7), (0, .ref pp), (1, .int p0), (2, .int p1)]) hx hb dX12_init_53 hl (k := 0) rfl (by decide) (by decide) rfl (fun ls hl => ?_)
  refine lv_goto (tgt := 40) hx hb dX12_init_56 (by decide) ?_
  refine lv_iload_n hx hb dX12_init_40 rfl (lv_at hl 0 rfl) ?_
  refine lv_bipush (v := 20) hx hb dX12_init_41 (by decide) ?_
  refine lv_icmp_ge (tgt := 59) hx hb dX12_init_43 (by decide) (fun c_243 => absurd c_243 (by decide)) (fun _ => ?_)
  refine lv_aload_n hx hb dX12_init_46 rfl (lv_at hl 1 rfl) ?_
  refine va_get (D := D) (ci := 17) (v := .ref q_227) (C := RX12) (T := TX12) (N := 7) hx hb hts (fun w h => zx_Gc (uz_X12 w h)) hown hK hP 0 rfl rfl 5 (by decide) (hts (.fieldLink RX12 13 "RefereehallModel$Person" "money" "[I") (zx_Gc mm_1632)) (fun _ h9 => h9) rfl dX12_init_47 ?_
  refine lv_iload_n hx hb dX12_init_50 rfl (lv_at hl 0 rfl) ?_
  refine lv_iconst (v := (-1)) hx hb dX12_init_51 (by decide) ?_
  refine va_iast hx hb hK hP hD hS 1 0 rfl rfl (zx_bn (by decide)) dX12_init_52 (fun H locs hP hD hS => ?_)
  have hP : va_P D vwCl [(pp, .inr (17, [.int p1, .int p0, .int (-1), .int 0, .int 0, .ref q_227, .ref q_228])), (q_227, .inl (cy 0, 20, .inl (upd f_242 (7 : Int32).toNatClampNeg (-1)))), (q_228, .inr (4, [.int 0, .ref ed, .int 0]))] H := hP
  have hD : va_D A [(pp, .inr (17, [.int p1, .int p0, .int (-1), .int 0, .int 0, .ref q_227, .ref q_228])), (q_227, .inl (cy 0, 20, .inl (upd f_242 (7 : Int32).toNatClampNeg (-1)))), (q_228, .inr (4, [.int 0, .ref ed, .int 0]))] := hD
  obtain ⟨f_244, ef_244⟩ : ∃ z9, z9 = (upd f_242 (7 : Int32).toNatClampNeg (-1)) := ⟨_, rfl⟩
  rw [← ef_244] at hP hD
  clear ef_244
  refine lv_iinc (v := 8) (lv' := [(3, .int 8), (0, .ref pp), (1, .int p0), (2, .int p1)]) hx hb dX12_init_53 hl (k := 0) rfl (by decide) (by decide) rfl (fun ls hl => ?_)
  refine lv_goto (tgt := 40) hx hb dX12_init_56 (by decide) ?_
  refine lv_iload_n hx hb dX12_init_40 rfl (lv_at hl 0 rfl) ?_
  refine lv_bipush (v := 20) hx hb dX12_init_41 (by decide) ?_
  refine lv_icmp_ge (tgt := 59) hx hb dX12_init_43 (by decide) (fun c_245 => absurd c_245 (by decide)) (fun _ => ?_)
  refine lv_aload_n hx hb dX12_init_46 rfl (lv_at hl 1 rfl) ?_
  refine va_get (D := D) (ci := 17) (v := .ref q_227) (C := RX12) (T := TX12) (N := 7) hx hb hts (fun w h => zx_Gc (uz_X12 w h)) hown hK hP 0 rfl rfl 5 (by decide) (hts (.fieldLink RX12 13 "RefereehallModel$Person" "money" "[I") (zx_Gc mm_1632)) (fun _ h9 => h9) rfl dX12_init_47 ?_
  refine lv_iload_n hx hb dX12_init_50 rfl (lv_at hl 0 rfl) ?_
  refine lv_iconst (v := (-1)) hx hb dX12_init_51 (by decide) ?_
  refine va_iast hx hb hK hP hD hS 1 0 rfl rfl (zx_bn (by decide)) dX12_init_52 (fun H locs hP hD hS => ?_)
  have hP : va_P D vwCl [(pp, .inr (17, [.int p1, .int p0, .int (-1), .int 0, .int 0, .ref q_227, .ref q_228])), (q_227, .inl (cy 0, 20, .inl (upd f_244 (8 : Int32).toNatClampNeg (-1)))), (q_228, .inr (4, [.int 0, .ref ed, .int 0]))] H := hP
  have hD : va_D A [(pp, .inr (17, [.int p1, .int p0, .int (-1), .int 0, .int 0, .ref q_227, .ref q_228])), (q_227, .inl (cy 0, 20, .inl (upd f_244 (8 : Int32).toNatClampNeg (-1)))), (q_228, .inr (4, [.int 0, .ref ed, .int 0]))] := hD
  obtain ⟨f_246, ef_246⟩ : ∃ z9, z9 = (upd f_244 (8 : Int32).toNatClampNeg (-1)) := ⟨_, rfl⟩
  rw [← ef_246] at hP hD
  clear ef_246
  refine lv_iinc (v := 9) (lv' := [(3, .int 9), (0, .ref pp), (1, .int p0), (2, .int p1)]) hx hb dX12_init_53 hl (k := 0) rfl (by decide) (by decide) rfl (fun ls hl => ?_)
  refine lv_goto (tgt := 40) hx hb dX12_init_56 (by decide) ?_
  refine lv_iload_n hx hb dX12_init_40 rfl (lv_at hl 0 rfl) ?_
  refine lv_bipush (v := 20) hx hb dX12_init_41 (by decide) ?_
  refine lv_icmp_ge (tgt := 59) hx hb dX12_init_43 (by decide) (fun c_247 => absurd c_247 (by decide)) (fun _ => ?_)
  refine lv_aload_n hx hb dX12_init_46 rfl (lv_at hl 1 rfl) ?_
  refine va_get (D := D) (ci := 17) (v := .ref q_227) (C := RX12) (T := TX12) (N := 7) hx hb hts (fun w h => zx_Gc (uz_X12 w h)) hown hK hP 0 rfl rfl 5 (by decide) (hts (.fieldLink RX12 13 "RefereehallModel$Person" "money" "[I") (zx_Gc mm_1632)) (fun _ h9 => h9) rfl dX12_init_47 ?_
  refine lv_iload_n hx hb dX12_init_50 rfl (lv_at hl 0 rfl) ?_
  refine lv_iconst (v := (-1)) hx hb dX12_init_51 (by decide) ?_
  refine va_iast hx hb hK hP hD hS 1 0 rfl rfl (zx_bn (by decide)) dX12_init_52 (fun H locs hP hD hS => ?_)
  have hP : va_P D vwCl [(pp, .inr (17, [.int p1, .int p0, .int (-1), .int 0, .int 0, .ref q_227, .ref q_228])), (q_227, .inl (cy 0, 20, .inl (upd f_246 (9 : Int32).toNatClampNeg (-1)))), (q_228, .inr (4, [.int 0, .ref ed, .int 0]))] H := hP
  have hD : va_D A [(pp, .inr (17, [.int p1, .int p0, .int (-1), .int 0, .int 0, .ref q_227, .ref q_228])), (q_227, .inl (cy 0, 20, .inl (upd f_246 (9 : Int32).toNatClampNeg (-1)))), (q_228, .inr (4, [.int 0, .ref ed, .int 0]))] := hD
  obtain ⟨f_248, ef_248⟩ : ∃ z9, z9 = (upd f_246 (9 : Int32).toNatClampNeg (-1)) := ⟨_, rfl⟩
  rw [← ef_248] at hP hD
  clear ef_248
  refine lv_iinc (v := 10) (lv' := [(3, .int 10), (0, .ref pp), (1, .int p0), (2, .int p1)]) hx hb dX12_init_53 hl (k := 0) rfl (by decide) (by decide) rfl (fun ls hl => ?_)
  refine lv_goto (tgt := 40) hx hb dX12_init_56 (by decide) ?_
  refine lv_iload_n hx hb dX12_init_40 rfl (lv_at hl 0 rfl) ?_
  refine lv_bipush (v := 20) hx hb dX12_init_41 (by decide) ?_
  refine lv_icmp_ge (tgt := 59) hx hb dX12_init_43 (by decide) (fun c_249 => absurd c_249 (by decide)) (fun _ => ?_)
  refine lv_aload_n hx hb dX12_init_46 rfl (lv_at hl 1 rfl) ?_
  refine va_get (D := D) (ci := 17) (v := .ref q_227) (C := RX12) (T := TX12) (N := 7) hx hb hts (fun w h => zx_Gc (uz_X12 w h)) hown hK hP 0 rfl rfl 5 (by decide) (hts (.fieldLink RX12 13 "RefereehallModel$Person" "money" "[I") (zx_Gc mm_1632)) (fun _ h9 => h9) rfl dX12_init_47 ?_
  refine lv_iload_n hx hb dX12_init_50 rfl (lv_at hl 0 rfl) ?_
  refine lv_iconst (v := (-1)) hx hb dX12_init_51 (by decide) ?_
  refine va_iast hx hb hK hP hD hS 1 0 rfl rfl (zx_bn (by decide)) dX12_init_52 (fun H locs hP hD hS => ?_)
  have hP : va_P D vwCl [(pp, .inr (17, [.int p1, .int p0, .int (-1), .int 0, .int 0, .ref q_227, .ref q_228])), (q_227, .inl (cy 0, 20, .inl (upd f_248 (10 : Int32).toNatClampNeg (-1)))), (q_228, .inr (4, [.int 0, .ref ed, .int 0]))] H := hP
  have hD : va_D A [(pp, .inr (17, [.int p1, .int p0, .int (-1), .int 0, .int 0, .ref q_227, .ref q_228])), (q_227, .inl (cy 0, 20, .inl (upd f_248 (10 : Int32).toNatClampNeg (-1)))), (q_228, .inr (4, [.int 0, .ref ed, .int 0]))] := hD
  obtain ⟨f_250, ef_250⟩ : ∃ z9, z9 = (upd f_248 (10 : Int32).toNatClampNeg (-1)) := ⟨_, rfl⟩
  rw [← ef_250] at hP hD
  clear ef_250
  refine lv_iinc (v := 11) (lv' := [(3, .int 11), (0, .ref pp), (1, .int p0), (2, .int p1)]) hx hb dX12_init_53 hl (k := 0) rfl (by decide) (by decide) rfl (fun ls hl => ?_)
  refine lv_goto (tgt := 40) hx hb dX12_init_56 (by decide) ?_
  refine lv_iload_n hx hb dX12_init_40 rfl (lv_at hl 0 rfl) ?_
  refine lv_bipush (v := 20) hx hb dX12_init_41 (by decide) ?_
  refine lv_icmp_ge (tgt := 59) hx hb dX12_init_43 (by decide) (fun c_251 => absurd c_251 (by decide)) (fun _ => ?_)
  refine lv_aload_n hx hb dX12_init_46 rfl (lv_at hl 1 rfl) ?_
  refine va_get (D := D) (ci := 17) (v := .ref q_227) (C := RX12) (T := TX12) (N := 7) hx hb hts (fun w h => zx_Gc (uz_X12 w h)) hown hK hP 0 rfl rfl 5 (by decide) (hts (.fieldLink RX12 13 "RefereehallModel$Person" "money" "[I") (zx_Gc mm_1632)) (fun _ h9 => h9) rfl dX12_init_47 ?_
  refine lv_iload_n hx hb dX12_init_50 rfl (lv_at hl 0 rfl) ?_
  refine lv_iconst (v := (-1)) hx hb dX12_init_51 (by decide) ?_
  refine va_iast hx hb hK hP hD hS 1 0 rfl rfl (zx_bn (by decide)) dX12_init_52 (fun H locs hP hD hS => ?_)
  have hP : va_P D vwCl [(pp, .inr (17, [.int p1, .int p0, .int (-1), .int 0, .int 0, .ref q_227, .ref q_228])), (q_227, .inl (cy 0, 20, .inl (upd f_250 (11 : Int32).toNatClampNeg (-1)))), (q_228, .inr (4, [.int 0, .ref ed, .int 0]))] H := hP
  have hD : va_D A [(pp, .inr (17, [.int p1, .int p0, .int (-1), .int 0, .int 0, .ref q_227, .ref q_228])), (q_227, .inl (cy 0, 20, .inl (upd f_250 (11 : Int32).toNatClampNeg (-1)))), (q_228, .inr (4, [.int 0, .ref ed, .int 0]))] := hD
  obtain ⟨f_252, ef_252⟩ : ∃ z9, z9 = (upd f_250 (11 : Int32).toNatClampNeg (-1)) := ⟨_, rfl⟩
  rw [← ef_252] at hP hD
  clear ef_252
  refine lv_iinc (v := 12) (lv' := [(3, .int 12), (0, .ref pp), (1, .int p0), (2, .int p1)]) hx hb dX12_init_53 hl (k := 0) rfl (by decide) (by decide) rfl (fun ls hl => ?_)
  refine lv_goto (tgt := 40) hx hb dX12_init_56 (by decide) ?_
  refine lv_iload_n hx hb dX12_init_40 rfl (lv_at hl 0 rfl) ?_
  refine lv_bipush (v := 20) hx hb dX12_init_41 (by decide) ?_
  refine lv_icmp_ge (tgt := 59) hx hb dX12_init_43 (by decide) (fun c_253 => absurd c_253 (by decide)) (fun _ => ?_)
  refine lv_aload_n hx hb dX12_init_46 rfl (lv_at hl 1 rfl) ?_
  refine va_get (D := D) (ci := 17) (v := .ref q_227) (C := RX12) (T := TX12) (N := 7) hx hb hts (fun w h => zx_Gc (uz_X12 w h)) hown hK hP 0 rfl rfl 5 (by decide) (hts (.fieldLink RX12 13 "RefereehallModel$Person" "money" "[I") (zx_Gc mm_1632)) (fun _ h9 => h9) rfl dX12_init_47 ?_
  refine lv_iload_n hx hb dX12_init_50 rfl (lv_at hl 0 rfl) ?_
  refine lv_iconst (v := (-1)) hx hb dX12_init_51 (by decide) ?_
  refine va_iast hx hb hK hP hD hS 1 0 rfl rfl (zx_bn (by decide)) dX12_init_52 (fun H locs hP hD hS => ?_)
  have hP : va_P D vwCl [(pp, .inr (17, [.int p1, .int p0, .int (-1), .int 0, .int 0, .ref q_227, .ref q_228])), (q_227, .inl (cy 0, 20, .inl (upd f_252 (12 : Int32).toNatClampNeg (-1)))), (q_228, .inr (4, [.int 0, .ref ed, .int 0]))] H := hP
  have hD : va_D A [(pp, .inr (17, [.int p1, .int p0, .int (-1), .int 0, .int 0, .ref q_227, .ref q_228])), (q_227, .inl (cy 0, 20, .inl (upd f_252 (12 : Int32).toNatClampNeg (-1)))), (q_228, .inr (4, [.int 0, .ref ed, .int 0]))] := hD
  obtain ⟨f_254, ef_254⟩ : ∃ z9, z9 = (upd f_252 (12 : Int32).toNatClampNeg (-1)) := ⟨_, rfl⟩
  rw [← ef_254] at hP hD
  clear ef_254
  refine lv_iinc (v := 13) (lv' := [(3, .int 13), (0, .ref pp), (1, .int p0), (2, .int p1)]) hx hb dX12_init_53 hl (k := 0) rfl (by decide) (by decide) rfl (fun ls hl => ?_)
  refine lv_goto (tgt := 40) hx hb dX12_init_56 (by decide) ?_
  refine lv_iload_n hx hb dX12_init_40 rfl (lv_at hl 0 rfl) ?_
  refine lv_bipush (v := 20) hx hb dX12_init_41 (by decide) ?_
  refine lv_icmp_ge (tgt := 59) hx hb dX12_init_43 (by decide) (fun c_255 => absurd c_255 (by decide)) (fun _ => ?_)
  refine lv_aload_n hx hb dX12_init_46 rfl (lv_at hl 1 rfl) ?_
  refine va_get (D := D) (ci := 17) (v := .ref q_227) (C := RX12) (T := TX12) (N := 7) hx hb hts (fun w h => zx_Gc (uz_X12 w h)) hown hK hP 0 rfl rfl 5 (by decide) (hts (.fieldLink RX12 13 "RefereehallModel$Person" "money" "[I") (zx_Gc mm_1632)) (fun _ h9 => h9) rfl dX12_init_47 ?_
  refine lv_iload_n hx hb dX12_init_50 rfl (lv_at hl 0 rfl) ?_
  refine lv_iconst (v := (-1)) hx hb dX12_init_51 (by decide) ?_
  refine va_iast hx hb hK hP hD hS 1 0 rfl rfl (zx_bn (by decide)) dX12_init_52 (fun H locs hP hD hS => ?_)
  have hP : va_P D vwCl [(pp, .inr (17, [.int p1, .int p0, .int (-1), .int 0, .int 0, .ref q_227, .ref q_228])), (q_227, .inl (cy 0, 20, .inl (upd f_254 (13 : Int32).toNatClampNeg (-1)))), (q_228, .inr (4, [.int 0, .ref ed, .int 0]))] H := hP
  have hD : va_D A [(pp, .inr (17, [.int p1, .int p0, .int (-1), .int 0, .int 0, .ref q_227, .ref q_228])), (q_227, .inl (cy 0, 20, .inl (upd f_254 (13 : Int32).toNatClampNeg (-1)))), (q_228, .inr (4, [.int 0, .ref ed, .int 0]))] := hD
  obtain ⟨f_256, ef_256⟩ : ∃ z9, z9 = (upd f_254 (13 : Int32).toNatClampNeg (-1)) := ⟨_, rfl⟩
  rw [← ef_256] at hP hD
  clear ef_256
  refine lv_iinc (v := 14) (lv' := [(3, .int 14), (0, .ref pp), (1, .int p0), (2, .int p1)]) hx hb dX12_init_53 hl (k := 0) rfl (by decide) (by decide) rfl (fun ls hl => ?_)
  refine lv_goto (tgt := 40) hx hb dX12_init_56 (by decide) ?_
  refine lv_iload_n hx hb dX12_init_40 rfl (lv_at hl 0 rfl) ?_
  refine lv_bipush (v := 20) hx hb dX12_init_41 (by decide) ?_
  refine lv_icmp_ge (tgt := 59) hx hb dX12_init_43 (by decide) (fun c_257 => absurd c_257 (by decide)) (fun _ => ?_)
  refine lv_aload_n hx hb dX12_init_46 rfl (lv_at hl 1 rfl) ?_
  refine va_get (D := D) (ci := 17) (v := .ref q_227) (C := RX12) (T := TX12) (N := 7) hx hb hts (fun w h => zx_Gc (uz_X12 w h)) hown hK hP 0 rfl rfl 5 (by decide) (hts (.fieldLink RX12 13 "RefereehallModel$Person" "money" "[I") (zx_Gc mm_1632)) (fun _ h9 => h9) rfl dX12_init_47 ?_
  refine lv_iload_n hx hb dX12_init_50 rfl (lv_at hl 0 rfl) ?_
  refine lv_iconst (v := (-1)) hx hb dX12_init_51 (by decide) ?_
  refine va_iast hx hb hK hP hD hS 1 0 rfl rfl (zx_bn (by decide)) dX12_init_52 (fun H locs hP hD hS => ?_)
  have hP : va_P D vwCl [(pp, .inr (17, [.int p1, .int p0, .int (-1), .int 0, .int 0, .ref q_227, .ref q_228])), (q_227, .inl (cy 0, 20, .inl (upd f_256 (14 : Int32).toNatClampNeg (-1)))), (q_228, .inr (4, [.int 0, .ref ed, .int 0]))] H := hP
  have hD : va_D A [(pp, .inr (17, [.int p1, .int p0, .int (-1), .int 0, .int 0, .ref q_227, .ref q_228])), (q_227, .inl (cy 0, 20, .inl (upd f_256 (14 : Int32).toNatClampNeg (-1)))), (q_228, .inr (4, [.int 0, .ref ed, .int 0]))] := hD
  obtain ⟨f_258, ef_258⟩ : ∃ z9, z9 = (upd f_256 (14 : Int32).toNatClampNeg (-1)) := ⟨_, rfl⟩
  rw [← ef_258] at hP hD
  clear ef_258
  refine lv_iinc (v := 15) (lv' := [(3, .int 15), (0, .ref pp), (1, .int p0), (2, .int p1)]) hx hb dX12_init_53 hl (k := 0) rfl (by decide) (by decide) rfl (fun ls hl => ?_)
  refine lv_goto (tgt := 40) hx hb dX12_init_56 (by decide) ?_
  refine lv_iload_n hx hb dX12_init_40 rfl (lv_at hl 0 rfl) ?_
  refine lv_bipush (v := 20) hx hb dX12_init_41 (by decide) ?_
  refine lv_icmp_ge (tgt := 59) hx hb dX12_init_43 (by decide) (fun c_259 => absurd c_259 (by decide)) (fun _ => ?_)
  refine lv_aload_n hx hb dX12_init_46 rfl (lv_at hl 1 rfl) ?_
  refine va_get (D := D) (ci := 17) (v := .ref q_227) (C := RX12) (T := TX12) (N := 7) hx hb hts (fun w h => zx_Gc (uz_X12 w h)) hown hK hP 0 rfl rfl 5 (by decide) (hts (.fieldLink RX12 13 "RefereehallModel$Person" "money" "[I") (zx_Gc mm_1632)) (fun _ h9 => h9) rfl dX12_init_47 ?_
  refine lv_iload_n hx hb dX12_init_50 rfl (lv_at hl 0 rfl) ?_
  refine lv_iconst (v := (-1)) hx hb dX12_init_51 (by decide) ?_
  refine va_iast hx hb hK hP hD hS 1 0 rfl rfl (zx_bn (by decide)) dX12_init_52 (fun H locs hP hD hS => ?_)
  have hP : va_P D vwCl [(pp, .inr (17, [.int p1, .int p0, .int (-1), .int 0, .int 0, .ref q_227, .ref q_228])), (q_227, .inl (cy 0, 20, .inl (upd f_258 (15 : Int32).toNatClampNeg (-1)))), (q_228, .inr (4, [.int 0, .ref ed, .int 0]))] H := hP
  have hD : va_D A [(pp, .inr (17, [.int p1, .int p0, .int (-1), .int 0, .int 0, .ref q_227, .ref q_228])), (q_227, .inl (cy 0, 20, .inl (upd f_258 (15 : Int32).toNatClampNeg (-1)))), (q_228, .inr (4, [.int 0, .ref ed, .int 0]))] := hD
  obtain ⟨f_260, ef_260⟩ : ∃ z9, z9 = (upd f_258 (15 : Int32).toNatClampNeg (-1)) := ⟨_, rfl⟩
  rw [← ef_260] at hP hD
  clear ef_260
  refine lv_iinc (v := 16) (lv' := [(3, .int 16), (0, .ref pp), (1, .int p0), (2, .int p1)]) hx hb dX12_init_53 hl (k := 0) rfl (by decide) (by decide) rfl (fun ls hl => ?_)
  refine lv_goto (tgt := 40) hx hb dX12_init_56 (by decide) ?_
  refine lv_iload_n hx hb dX12_init_40 rfl (lv_at hl 0 rfl) ?_
  refine lv_bipush (v := 20) hx hb dX12_init_41 (by decide) ?_
  refine lv_icmp_ge (tgt := 59) hx hb dX12_init_43 (by decide) (fun c_261 => absurd c_261 (by decide)) (fun _ => ?_)
  refine lv_aload_n hx hb dX12_init_46 rfl (lv_at hl 1 rfl) ?_
  refine va_get (D := D) (ci := 17) (v := .ref q_227) (C := RX12) (T := TX12) (N := 7) hx hb hts (fun w h => zx_Gc (uz_X12 w h)) hown hK hP 0 rfl rfl 5 (by decide) (hts (.fieldLink RX12 13 "RefereehallModel$Person" "money" "[I") (zx_Gc mm_1632)) (fun _ h9 => h9) rfl dX12_init_47 ?_
  refine lv_iload_n hx hb dX12_init_50 rfl (lv_at hl 0 rfl) ?_
  refine lv_iconst (v := (-1)) hx hb dX12_init_51 (by decide) ?_
  refine va_iast hx hb hK hP hD hS 1 0 rfl rfl (zx_bn (by decide)) dX12_init_52 (fun H locs hP hD hS => ?_)
  have hP : va_P D vwCl [(pp, .inr (17, [.int p1, .int p0, .int (-1), .int 0, .int 0, .ref q_227, .ref q_228])), (q_227, .inl (cy 0, 20, .inl (upd f_260 (16 : Int32).toNatClampNeg (-1)))), (q_228, .inr (4, [.int 0, .ref ed, .int 0]))] H := hP
  have hD : va_D A [(pp, .inr (17, [.int p1, .int p0, .int (-1), .int 0, .int 0, .ref q_227, .ref q_228])), (q_227, .inl (cy 0, 20, .inl (upd f_260 (16 : Int32).toNatClampNeg (-1)))), (q_228, .inr (4, [.int 0, .ref ed, .int 0]))] := hD
  obtain ⟨f_262, ef_262⟩ : ∃ z9, z9 = (upd f_260 (16 : Int32).toNatClampNeg (-1)) := ⟨_, rfl⟩
  rw [← ef_262] at hP hD
  clear ef_262
  refine lv_iinc (v := 17) (lv' := [(3, .int 17), (0, .ref pp), (1, .int p0), (2, .int p1)]) hx hb dX12_init_53 hl (k := 0) rfl (by decide) (by decide) rfl (fun ls hl => ?_)
  refine lv_goto (tgt := 40) hx hb dX12_init_56 (by decide) ?_
  refine lv_iload_n hx hb dX12_init_40 rfl (lv_at hl 0 rfl) ?_
  refine lv_bipush (v := 20) hx hb dX12_init_41 (by decide) ?_
  refine lv_icmp_ge (tgt := 59) hx hb dX12_init_43 (by decide) (fun c_263 => absurd c_263 (by decide)) (fun _ => ?_)
  refine lv_aload_n hx hb dX12_init_46 rfl (lv_at hl 1 rfl) ?_
  refine va_get (D := D) (ci := 17) (v := .ref q_227) (C := RX12) (T := TX12) (N := 7) hx hb hts (fun w h => zx_Gc (uz_X12 w h)) hown hK hP 0 rfl rfl 5 (by decide) (hts (.fieldLink RX12 13 "RefereehallModel$Person" "money" "[I") (zx_Gc mm_1632)) (fun _ h9 => h9) rfl dX12_init_47 ?_
  refine lv_iload_n hx hb dX12_init_50 rfl (lv_at hl 0 rfl) ?_
  refine lv_iconst (v := (-1)) hx hb dX12_init_51 (by decide) ?_
  refine va_iast hx hb hK hP hD hS 1 0 rfl rfl (zx_bn (by decide)) dX12_init_52 (fun H locs hP hD hS => ?_)
  have hP : va_P D vwCl [(pp, .inr (17, [.int p1, .int p0, .int (-1), .int 0, .int 0, .ref q_227, .ref q_228])), (q_227, .inl (cy 0, 20, .inl (upd f_262 (17 : Int32).toNatClampNeg (-1)))), (q_228, .inr (4, [.int 0, .ref ed, .int 0]))] H := hP
  have hD : va_D A [(pp, .inr (17, [.int p1, .int p0, .int (-1), .int 0, .int 0, .ref q_227, .ref q_228])), (q_227, .inl (cy 0, 20, .inl (upd f_262 (17 : Int32).toNatClampNeg (-1)))), (q_228, .inr (4, [.int 0, .ref ed, .int 0]))] := hD
  obtain ⟨f_264, ef_264⟩ : ∃ z9, z9 = (upd f_262 (17 : Int32).toNatClampNeg (-1)) := ⟨_, rfl⟩
  rw [← ef_264] at hP hD
  clear ef_264
  refine lv_iinc (v := 18) (lv' := [(3, .int 18), (0, .ref pp), (1, .int p0), (2, .int p1)]) hx hb dX12_init_53 hl (k := 0) rfl (by decide) (by decide) rfl (fun ls hl => ?_)
  refine lv_goto (tgt := 40) hx hb dX12_init_56 (by decide) ?_
  refine lv_iload_n hx hb dX12_init_40 rfl (lv_at hl 0 rfl) ?_
  refine lv_bipush (v := 20) hx hb dX12_init_41 (by decide) ?_
  refine lv_icmp_ge (tgt := 59) hx hb dX12_init_43 (by decide) (fun c_265 => absurd c_265 (by decide)) (fun _ => ?_)
  refine lv_aload_n hx hb dX12_init_46 rfl (lv_at hl 1 rfl) ?_
  refine va_get (D := D) (ci := 17) (v := .ref q_227) (C := RX12) (T := TX12) (N := 7) hx hb hts (fun w h => zx_Gc (uz_X12 w h)) hown hK hP 0 rfl rfl 5 (by decide) (hts (.fieldLink RX12 13 "RefereehallModel$Person" "money" "[I") (zx_Gc mm_1632)) (fun _ h9 => h9) rfl dX12_init_47 ?_
  refine lv_iload_n hx hb dX12_init_50 rfl (lv_at hl 0 rfl) ?_
  refine lv_iconst (v := (-1)) hx hb dX12_init_51 (by decide) ?_
  refine va_iast hx hb hK hP hD hS 1 0 rfl rfl (zx_bn (by decide)) dX12_init_52 (fun H locs hP hD hS => ?_)
  have hP : va_P D vwCl [(pp, .inr (17, [.int p1, .int p0, .int (-1), .int 0, .int 0, .ref q_227, .ref q_228])), (q_227, .inl (cy 0, 20, .inl (upd f_264 (18 : Int32).toNatClampNeg (-1)))), (q_228, .inr (4, [.int 0, .ref ed, .int 0]))] H := hP
  have hD : va_D A [(pp, .inr (17, [.int p1, .int p0, .int (-1), .int 0, .int 0, .ref q_227, .ref q_228])), (q_227, .inl (cy 0, 20, .inl (upd f_264 (18 : Int32).toNatClampNeg (-1)))), (q_228, .inr (4, [.int 0, .ref ed, .int 0]))] := hD
  obtain ⟨f_266, ef_266⟩ : ∃ z9, z9 = (upd f_264 (18 : Int32).toNatClampNeg (-1)) := ⟨_, rfl⟩
  rw [← ef_266] at hP hD
  clear ef_266
  refine lv_iinc (v := 19) (lv' := [(3, .int 19), (0, .ref pp), (1, .int p0), (2, .int p1)]) hx hb dX12_init_53 hl (k := 0) rfl (by decide) (by decide) rfl (fun ls hl => ?_)
  refine lv_goto (tgt := 40) hx hb dX12_init_56 (by decide) ?_
  refine lv_iload_n hx hb dX12_init_40 rfl (lv_at hl 0 rfl) ?_
  refine lv_bipush (v := 20) hx hb dX12_init_41 (by decide) ?_
  refine lv_icmp_ge (tgt := 59) hx hb dX12_init_43 (by decide) (fun c_267 => absurd c_267 (by decide)) (fun _ => ?_)
  refine lv_aload_n hx hb dX12_init_46 rfl (lv_at hl 1 rfl) ?_
  refine va_get (D := D) (ci := 17) (v := .ref q_227) (C := RX12) (T := TX12) (N := 7) hx hb hts (fun w h => zx_Gc (uz_X12 w h)) hown hK hP 0 rfl rfl 5 (by decide) (hts (.fieldLink RX12 13 "RefereehallModel$Person" "money" "[I") (zx_Gc mm_1632)) (fun _ h9 => h9) rfl dX12_init_47 ?_
  refine lv_iload_n hx hb dX12_init_50 rfl (lv_at hl 0 rfl) ?_
  refine lv_iconst (v := (-1)) hx hb dX12_init_51 (by decide) ?_
  refine va_iast hx hb hK hP hD hS 1 0 rfl rfl (zx_bn (by decide)) dX12_init_52 (fun H locs hP hD hS => ?_)
  have hP : va_P D vwCl [(pp, .inr (17, [.int p1, .int p0, .int (-1), .int 0, .int 0, .ref q_227, .ref q_228])), (q_227, .inl (cy 0, 20, .inl (upd f_266 (19 : Int32).toNatClampNeg (-1)))), (q_228, .inr (4, [.int 0, .ref ed, .int 0]))] H := hP
  have hD : va_D A [(pp, .inr (17, [.int p1, .int p0, .int (-1), .int 0, .int 0, .ref q_227, .ref q_228])), (q_227, .inl (cy 0, 20, .inl (upd f_266 (19 : Int32).toNatClampNeg (-1)))), (q_228, .inr (4, [.int 0, .ref ed, .int 0]))] := hD
  obtain ⟨f_268, ef_268⟩ : ∃ z9, z9 = (upd f_266 (19 : Int32).toNatClampNeg (-1)) := ⟨_, rfl⟩
  rw [← ef_268] at hP hD
  clear ef_268
  refine lv_iinc (v := 20) (lv' := [(3, .int 20), (0, .ref pp), (1, .int p0), (2, .int p1)]) hx hb dX12_init_53 hl (k := 0) rfl (by decide) (by decide) rfl (fun ls hl => ?_)
  refine lv_goto (tgt := 40) hx hb dX12_init_56 (by decide) ?_
  refine lv_iload_n hx hb dX12_init_40 rfl (lv_at hl 0 rfl) ?_
  refine lv_bipush (v := 20) hx hb dX12_init_41 (by decide) ?_
  refine lv_icmp_ge (tgt := 59) hx hb dX12_init_43 (by decide) (fun _ => ?_) (fun c_269 => absurd (by decide) c_269)
  have hP9 := hP.sub (ws' := [(pp, .inr (17, [.int p1, .int p0, .int (-1), .int 0, .int 0, .ref q_227, .ref q_228]))]) [0] rfl
  have hD9 := hD.sub (ws' := [(pp, .inr (17, [.int p1, .int p0, .int (-1), .int 0, .int 0, .ref q_227, .ref q_228]))]) [0] (by decide) rfl
  exact W.vret hx hb hr (fun t ht hW => ⟨⟨⟨q_227, q_228, p1, p0, (-1), 0, 0⟩, rfl, trivial, zx_fin hP9 hD9 hK ht hW⟩, hS.F ht⟩) hS.2.2 dX12_init_59
