theorem dX6_init_0 : decode cX6_init 0 = .ok (.aload_n 0, 1) := by decide +kernel
theorem dX6_init_1 : decode cX6_init 1 = .ok (.invokespecial 3, 3) := by decide +kernel
theorem dX6_init_4 : decode cX6_init 4 = .ok (.aload_n 0, 1) := by decide +kernel
theorem dX6_init_5 : decode cX6_init 5 = .ok (.bipush 24, 2) := by decide +kernel
theorem dX6_init_7 : decode cX6_init 7 = .ok (.newarray .long, 2) := by decide +kernel
theorem dX6_init_9 : decode cX6_init 9 = .ok (.putfield 9, 3) := by decide +kernel
theorem dX6_init_12 : decode cX6_init 12 = .ok (.aload_n 0, 1) := by decide +kernel
theorem dX6_init_13 : decode cX6_init 13 = .ok (.iconst (-1), 1) := by decide +kernel
theorem dX6_init_14 : decode cX6_init 14 = .ok (.putfield 15, 3) := by decide +kernel
theorem dX6_init_17 : decode cX6_init 17 = .ok (.return_, 1) := by decide +kernel
theorem dX6_lay_0 : decode cX6_lay 0 = .ok (.aload_n 0, 1) := by decide +kernel
theorem dX6_lay_1 : decode cX6_lay 1 = .ok (.iload_n 1, 1) := by decide +kernel
theorem dX6_lay_2 : decode cX6_lay 2 = .ok (.putfield 15, 3) := by decide +kernel
theorem dX6_lay_5 : decode cX6_lay 5 = .ok (.aload_n 0, 1) := by decide +kernel
theorem dX6_lay_6 : decode cX6_lay 6 = .ok (.iload_n 2, 1) := by decide +kernel
theorem dX6_lay_7 : decode cX6_lay 7 = .ok (.putfield 19, 3) := by decide +kernel
theorem dX6_lay_10 : decode cX6_lay 10 = .ok (.iconst 0, 1) := by decide +kernel
theorem dX6_lay_11 : decode cX6_lay 11 = .ok (.istore_n 3, 1) := by decide +kernel
theorem dX6_lay_12 : decode cX6_lay 12 = .ok (.iload_n 3, 1) := by decide +kernel
theorem dX6_lay_13 : decode cX6_lay 13 = .ok (.bipush 24, 2) := by decide +kernel
theorem dX6_lay_15 : decode cX6_lay 15 = .ok (.if_icmp .ge 16, 3) := by decide +kernel
theorem dX6_lay_18 : decode cX6_lay 18 = .ok (.aload_n 0, 1) := by decide +kernel
theorem dX6_lay_19 : decode cX6_lay 19 = .ok (.getfield 9, 3) := by decide +kernel
theorem dX6_lay_22 : decode cX6_lay 22 = .ok (.iload_n 3, 1) := by decide +kernel
theorem dX6_lay_23 : decode cX6_lay 23 = .ok (.lconst 0, 1) := by decide +kernel
theorem dX6_lay_24 : decode cX6_lay 24 = .ok (.lastore, 1) := by decide +kernel
theorem dX6_lay_25 : decode cX6_lay 25 = .ok (.iinc 3 1, 3) := by decide +kernel
theorem dX6_lay_28 : decode cX6_lay 28 = .ok (.goto (-16), 3) := by decide +kernel
theorem dX6_lay_31 : decode cX6_lay 31 = .ok (.return_, 1) := by decide +kernel
theorem dX6_clear_0 : decode cX6_clear 0 = .ok (.aload_n 0, 1) := by decide +kernel
theorem dX6_clear_1 : decode cX6_clear 1 = .ok (.iconst (-1), 1) := by decide +kernel
theorem dX6_clear_2 : decode cX6_clear 2 = .ok (.putfield 15, 3) := by decide +kernel
theorem dX6_clear_5 : decode cX6_clear 5 = .ok (.aload_n 0, 1) := by decide +kernel
theorem dX6_clear_6 : decode cX6_clear 6 = .ok (.iconst 0, 1) := by decide +kernel
theorem dX6_clear_7 : decode cX6_clear 7 = .ok (.putfield 19, 3) := by decide +kernel
theorem dX6_clear_10 : decode cX6_clear 10 = .ok (.return_, 1) := by decide +kernel
theorem dX6_isNothing_0 : decode cX6_isNothing 0 = .ok (.aload_n 0, 1) := by decide +kernel
theorem dX6_isNothing_1 : decode cX6_isNothing 1 = .ok (.getfield 15, 3) := by decide +kernel
theorem dX6_isNothing_4 : decode cX6_isNothing 4 = .ok (.iconst (-1), 1) := by decide +kernel
theorem dX6_isNothing_5 : decode cX6_isNothing 5 = .ok (.if_icmp .ne 7, 3) := by decide +kernel
theorem dX6_isNothing_8 : decode cX6_isNothing 8 = .ok (.iconst 1, 1) := by decide +kernel
theorem dX6_isNothing_9 : decode cX6_isNothing 9 = .ok (.goto 4, 3) := by decide +kernel
theorem dX6_isNothing_12 : decode cX6_isNothing 12 = .ok (.iconst 0, 1) := by decide +kernel
theorem dX6_isNothing_13 : decode cX6_isNothing 13 = .ok (.ireturn, 1) := by decide +kernel
theorem dX6_spans_0 : decode cX6_spans 0 = .ok (.iload_n 2, 1) := by decide +kernel
theorem dX6_spans_1 : decode cX6_spans 1 = .ok (.ifCond .lt 29, 3) := by decide +kernel
theorem dX6_spans_4 : decode cX6_spans 4 = .ok (.iload_n 2, 1) := by decide +kernel
theorem dX6_spans_5 : decode cX6_spans 5 = .ok (.aload_n 0, 1) := by decide +kernel
theorem dX6_spans_6 : decode cX6_spans 6 = .ok (.getfield 19, 3) := by decide +kernel
theorem dX6_spans_9 : decode cX6_spans 9 = .ok (.if_icmp .gt 21, 3) := by decide +kernel
theorem dX6_spans_12 : decode cX6_spans 12 = .ok (.iload_n 1, 1) := by decide +kernel
theorem dX6_spans_13 : decode cX6_spans 13 = .ok (.ifCond .lt 17, 3) := by decide +kernel
theorem dX6_spans_16 : decode cX6_spans 16 = .ok (.iload_n 1, 1) := by decide +kernel
theorem dX6_spans_17 : decode cX6_spans 17 = .ok (.aload_n 0, 1) := by decide +kernel
theorem dX6_spans_18 : decode cX6_spans 18 = .ok (.getfield 19, 3) := by decide +kernel
theorem dX6_spans_21 : decode cX6_spans 21 = .ok (.iload_n 2, 1) := by decide +kernel
theorem dX6_spans_22 : decode cX6_spans 22 = .ok (.isub, 1) := by decide +kernel
theorem dX6_spans_23 : decode cX6_spans 23 = .ok (.if_icmp .gt 7, 3) := by decide +kernel
theorem dX6_spans_26 : decode cX6_spans 26 = .ok (.iconst 1, 1) := by decide +kernel
theorem dX6_spans_27 : decode cX6_spans 27 = .ok (.goto 4, 3) := by decide +kernel
theorem dX6_spans_30 : decode cX6_spans 30 = .ok (.iconst 0, 1) := by decide +kernel
theorem dX6_spans_31 : decode cX6_spans 31 = .ok (.ireturn, 1) := by decide +kernel
theorem dX6_refusal_0 : decode cX6_refusal 0 = .ok (.aload_n 0, 1) := by decide +kernel
theorem dX6_refusal_1 : decode cX6_refusal 1 = .ok (.invokevirtual 22, 3) := by decide +kernel
theorem dX6_refusal_4 : decode cX6_refusal 4 = .ok (.ifCond .eq 6, 3) := by decide +kernel
theorem dX6_refusal_7 : decode cX6_refusal 7 = .ok (.bipush (-11), 2) := by decide +kernel
theorem dX6_refusal_9 : decode cX6_refusal 9 = .ok (.ireturn, 1) := by decide +kernel
theorem dX6_refusal_10 : decode cX6_refusal 10 = .ok (.aload_n 0, 1) := by decide +kernel
theorem dX6_refusal_11 : decode cX6_refusal 11 = .ok (.getfield 15, 3) := by decide +kernel
theorem dX6_refusal_14 : decode cX6_refusal 14 = .ok (.iload_n 1, 1) := by decide +kernel
theorem dX6_refusal_15 : decode cX6_refusal 15 = .ok (.if_icmp .eq 6, 3) := by decide +kernel
theorem dX6_refusal_18 : decode cX6_refusal 18 = .ok (.bipush (-12), 2) := by decide +kernel
theorem dX6_refusal_20 : decode cX6_refusal 20 = .ok (.ireturn, 1) := by decide +kernel
theorem dX6_refusal_21 : decode cX6_refusal 21 = .ok (.aload_n 0, 1) := by decide +kernel
theorem dX6_refusal_22 : decode cX6_refusal 22 = .ok (.iload_n 2, 1) := by decide +kernel
theorem dX6_refusal_23 : decode cX6_refusal 23 = .ok (.iload_n 3, 1) := by decide +kernel
theorem dX6_refusal_24 : decode cX6_refusal 24 = .ok (.invokevirtual 26, 3) := by decide +kernel
theorem dX6_refusal_27 : decode cX6_refusal 27 = .ok (.ifCond .eq 7, 3) := by decide +kernel
theorem dX6_refusal_30 : decode cX6_refusal 30 = .ok (.iconst 0, 1) := by decide +kernel
theorem dX6_refusal_31 : decode cX6_refusal 31 = .ok (.goto 5, 3) := by decide +kernel
theorem dX6_refusal_34 : decode cX6_refusal 34 = .ok (.bipush (-13), 2) := by decide +kernel
theorem dX6_refusal_36 : decode cX6_refusal 36 = .ok (.ireturn, 1) := by decide +kernel
theorem dX6_at_0 : decode cX6_at 0 = .ok (.iload_n 1, 1) := by decide +kernel
theorem dX6_at_1 : decode cX6_at 1 = .ok (.ifCond .lt 26, 3) := by decide +kernel
theorem dX6_at_4 : decode cX6_at 4 = .ok (.iload_n 1, 1) := by decide +kernel
theorem dX6_at_5 : decode cX6_at 5 = .ok (.aload_n 0, 1) := by decide +kernel
theorem dX6_at_6 : decode cX6_at 6 = .ok (.getfield 19, 3) := by decide +kernel
theorem dX6_at_9 : decode cX6_at 9 = .ok (.if_icmp .ge 18, 3) := by decide +kernel
theorem dX6_at_12 : decode cX6_at 12 = .ok (.iload_n 1, 1) := by decide +kernel
theorem dX6_at_13 : decode cX6_at 13 = .ok (.bipush 24, 2) := by decide +kernel
theorem dX6_at_15 : decode cX6_at 15 = .ok (.if_icmp .ge 12, 3) := by decide +kernel
theorem dX6_at_18 : decode cX6_at 18 = .ok (.aload_n 0, 1) := by decide +kernel
theorem dX6_at_19 : decode cX6_at 19 = .ok (.getfield 9, 3) := by decide +kernel
theorem dX6_at_22 : decode cX6_at 22 = .ok (.iload_n 1, 1) := by decide +kernel
theorem dX6_at_23 : decode cX6_at 23 = .ok (.laload, 1) := by decide +kernel
theorem dX6_at_24 : decode cX6_at 24 = .ok (.goto 4, 3) := by decide +kernel
theorem dX6_at_27 : decode cX6_at 27 = .ok (.lconst 0, 1) := by decide +kernel
theorem dX6_at_28 : decode cX6_at 28 = .ok (.lreturn, 1) := by decide +kernel
theorem dX6_put_0 : decode cX6_put 0 = .ok (.iload_n 1, 1) := by decide +kernel
theorem dX6_put_1 : decode cX6_put 1 = .ok (.ifCond .lt 17, 3) := by decide +kernel
theorem dX6_put_4 : decode cX6_put 4 = .ok (.iload_n 1, 1) := by decide +kernel
theorem dX6_put_5 : decode cX6_put 5 = .ok (.aload_n 0, 1) := by decide +kernel
theorem dX6_put_6 : decode cX6_put 6 = .ok (.getfield 19, 3) := by decide +kernel
theorem dX6_put_9 : decode cX6_put 9 = .ok (.if_icmp .ge 9, 3) := by decide +kernel
theorem dX6_put_12 : decode cX6_put 12 = .ok (.iload_n 1, 1) := by decide +kernel
theorem dX6_put_13 : decode cX6_put 13 = .ok (.bipush 24, 2) := by decide +kernel
theorem dX6_put_15 : decode cX6_put 15 = .ok (.if_icmp .lt 7, 3) := by decide +kernel
theorem dX6_put_18 : decode cX6_put 18 = .ok (.ldc2_w 30, 3) := by decide +kernel
theorem dX6_put_21 : decode cX6_put 21 = .ok (.lreturn, 1) := by decide +kernel
theorem dX6_put_22 : decode cX6_put 22 = .ok (.aload_n 0, 1) := by decide +kernel
theorem dX6_put_23 : decode cX6_put 23 = .ok (.getfield 9, 3) := by decide +kernel
theorem dX6_put_26 : decode cX6_put 26 = .ok (.iload_n 1, 1) := by decide +kernel
theorem dX6_put_27 : decode cX6_put 27 = .ok (.aload_n 0, 1) := by decide +kernel
theorem dX6_put_28 : decode cX6_put 28 = .ok (.lload_n 2, 1) := by decide +kernel
theorem dX6_put_29 : decode cX6_put 29 = .ok (.invokevirtual 32, 3) := by decide +kernel
theorem dX6_put_32 : decode cX6_put 32 = .ok (.lastore, 1) := by decide +kernel
theorem dX6_put_33 : decode cX6_put 33 = .ok (.aload_n 0, 1) := by decide +kernel
theorem dX6_put_34 : decode cX6_put 34 = .ok (.getfield 9, 3) := by decide +kernel
theorem dX6_put_37 : decode cX6_put 37 = .ok (.iload_n 1, 1) := by decide +kernel
theorem dX6_put_38 : decode cX6_put 38 = .ok (.laload, 1) := by decide +kernel
theorem dX6_put_39 : decode cX6_put 39 = .ok (.lreturn, 1) := by decide +kernel
theorem dX6_cutToLane_0 : decode cX6_cutToLane 0 = .ok (.aload_n 0, 1) := by decide +kernel
theorem dX6_cutToLane_1 : decode cX6_cutToLane 1 = .ok (.getfield 15, 3) := by decide +kernel
theorem dX6_cutToLane_4 : decode cX6_cutToLane 4 = .ok (.tableswitch 42 0 2 #[28, 33, 38], 28) := by decide +kernel
theorem dX6_cutToLane_32 : decode cX6_cutToLane 32 = .ok (.lload_n 1, 1) := by decide +kernel
theorem dX6_cutToLane_33 : decode cX6_cutToLane 33 = .ok (.l2i, 1) := by decide +kernel
theorem dX6_cutToLane_34 : decode cX6_cutToLane 34 = .ok (.i2b, 1) := by decide +kernel
theorem dX6_cutToLane_35 : decode cX6_cutToLane 35 = .ok (.i2l, 1) := by decide +kernel
theorem dX6_cutToLane_36 : decode cX6_cutToLane 36 = .ok (.lreturn, 1) := by decide +kernel
theorem dX6_cutToLane_37 : decode cX6_cutToLane 37 = .ok (.lload_n 1, 1) := by decide +kernel
theorem dX6_cutToLane_38 : decode cX6_cutToLane 38 = .ok (.l2i, 1) := by decide +kernel
theorem dX6_cutToLane_39 : decode cX6_cutToLane 39 = .ok (.i2s, 1) := by decide +kernel
theorem dX6_cutToLane_40 : decode cX6_cutToLane 40 = .ok (.i2l, 1) := by decide +kernel
theorem dX6_cutToLane_41 : decode cX6_cutToLane 41 = .ok (.lreturn, 1) := by decide +kernel
theorem dX6_cutToLane_42 : decode cX6_cutToLane 42 = .ok (.lload_n 1, 1) := by decide +kernel
theorem dX6_cutToLane_43 : decode cX6_cutToLane 43 = .ok (.l2i, 1) := by decide +kernel
theorem dX6_cutToLane_44 : decode cX6_cutToLane 44 = .ok (.i2l, 1) := by decide +kernel
theorem dX6_cutToLane_45 : decode cX6_cutToLane 45 = .ok (.lreturn, 1) := by decide +kernel
theorem dX6_cutToLane_46 : decode cX6_cutToLane 46 = .ok (.lload_n 1, 1) := by decide +kernel
theorem dX6_cutToLane_47 : decode cX6_cutToLane 47 = .ok (.lreturn, 1) := by decide +kernel
