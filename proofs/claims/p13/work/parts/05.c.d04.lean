theorem dX1_askSign_27 : decode cX1_askSign 27 = .ok (.getfield 65, 3) := by decide +kernel
theorem dX1_askSign_30 : decode cX1_askSign 30 = .ok (.invokevirtual 174, 3) := by decide +kernel
theorem dX1_askSign_33 : decode cX1_askSign 33 = .ok (.invokevirtual 177, 3) := by decide +kernel
theorem dX1_askSign_36 : decode cX1_askSign 36 = .ok (.ifCond .eq 7, 3) := by decide +kernel
theorem dX1_askSign_39 : decode cX1_askSign 39 = .ok (.iconst 1, 1) := by decide +kernel
theorem dX1_askSign_40 : decode cX1_askSign 40 = .ok (.goto 4, 3) := by decide +kernel
theorem dX1_askSign_43 : decode cX1_askSign 43 = .ok (.iconst 0, 1) := by decide +kernel
theorem dX1_askSign_44 : decode cX1_askSign 44 = .ok (.istore_n 1, 1) := by decide +kernel
theorem dX1_askSign_45 : decode cX1_askSign 45 = .ok (.aload_n 0, 1) := by decide +kernel
theorem dX1_askSign_46 : decode cX1_askSign 46 = .ok (.dup, 1) := by decide +kernel
theorem dX1_askSign_47 : decode cX1_askSign 47 = .ok (.getfield 65, 3) := by decide +kernel
theorem dX1_askSign_50 : decode cX1_askSign 50 = .ok (.iload_n 1, 1) := by decide +kernel
theorem dX1_askSign_51 : decode cX1_askSign 51 = .ok (.ifCond .eq 7, 3) := by decide +kernel
theorem dX1_askSign_54 : decode cX1_askSign 54 = .ok (.iconst 1, 1) := by decide +kernel
theorem dX1_askSign_55 : decode cX1_askSign 55 = .ok (.goto 4, 3) := by decide +kernel
theorem dX1_askSign_58 : decode cX1_askSign 58 = .ok (.iconst 0, 1) := by decide +kernel
theorem dX1_askSign_59 : decode cX1_askSign 59 = .ok (.iadd, 1) := by decide +kernel
theorem dX1_askSign_60 : decode cX1_askSign 60 = .ok (.putfield 65, 3) := by decide +kernel
theorem dX1_askSign_63 : decode cX1_askSign 63 = .ok (.aload_n 0, 1) := by decide +kernel
theorem dX1_askSign_64 : decode cX1_askSign 64 = .ok (.iload_n 1, 1) := by decide +kernel
theorem dX1_askSign_65 : decode cX1_askSign 65 = .ok (.ifCond .eq 7, 3) := by decide +kernel
theorem dX1_askSign_68 : decode cX1_askSign 68 = .ok (.iconst 1, 1) := by decide +kernel
theorem dX1_askSign_69 : decode cX1_askSign 69 = .ok (.goto 4, 3) := by decide +kernel
theorem dX1_askSign_72 : decode cX1_askSign 72 = .ok (.iconst 2, 1) := by decide +kernel
theorem dX1_askSign_73 : decode cX1_askSign 73 = .ok (.putfield 71, 3) := by decide +kernel
theorem dX1_askSign_76 : decode cX1_askSign 76 = .ok (.return_, 1) := by decide +kernel
theorem dX1_begin_0 : decode cX1_begin 0 = .ok (.aload_n 0, 1) := by decide +kernel
theorem dX1_begin_1 : decode cX1_begin 1 = .ok (.aload_n 1, 1) := by decide +kernel
theorem dX1_begin_2 : decode cX1_begin 2 = .ok (.putfield 14, 3) := by decide +kernel
theorem dX1_begin_5 : decode cX1_begin 5 = .ok (.aload_n 0, 1) := by decide +kernel
theorem dX1_begin_6 : decode cX1_begin 6 = .ok (.aload_n 2, 1) := by decide +kernel
theorem dX1_begin_7 : decode cX1_begin 7 = .ok (.putfield 25, 3) := by decide +kernel
theorem dX1_begin_10 : decode cX1_begin 10 = .ok (.aload_n 0, 1) := by decide +kernel
theorem dX1_begin_11 : decode cX1_begin 11 = .ok (.iload 4, 2) := by decide +kernel
theorem dX1_begin_13 : decode cX1_begin 13 = .ok (.putfield 51, 3) := by decide +kernel
theorem dX1_begin_16 : decode cX1_begin 16 = .ok (.aload_n 0, 1) := by decide +kernel
theorem dX1_begin_17 : decode cX1_begin 17 = .ok (.iconst 0, 1) := by decide +kernel
theorem dX1_begin_18 : decode cX1_begin 18 = .ok (.putfield 55, 3) := by decide +kernel
theorem dX1_begin_21 : decode cX1_begin 21 = .ok (.aload_n 0, 1) := by decide +kernel
theorem dX1_begin_22 : decode cX1_begin 22 = .ok (.iload_n 3, 1) := by decide +kernel
theorem dX1_begin_23 : decode cX1_begin 23 = .ok (.invokevirtual 59, 3) := by decide +kernel
theorem dX1_begin_26 : decode cX1_begin 26 = .ok (.return_, 1) := by decide +kernel
theorem dX1_captureBegin_0 : decode cX1_captureBegin 0 = .ok (.aload_n 0, 1) := by decide +kernel
theorem dX1_captureBegin_1 : decode cX1_captureBegin 1 = .ok (.sipush 256, 3) := by decide +kernel
theorem dX1_captureBegin_4 : decode cX1_captureBegin 4 = .ok (.iload_n 1, 1) := by decide +kernel
theorem dX1_captureBegin_5 : decode cX1_captureBegin 5 = .ok (.iadd, 1) := by decide +kernel
theorem dX1_captureBegin_6 : decode cX1_captureBegin 6 = .ok (.invokevirtual 204, 3) := by decide +kernel
theorem dX1_captureBegin_9 : decode cX1_captureBegin 9 = .ok (.istore_n 2, 1) := by decide +kernel
theorem dX1_captureBegin_10 : decode cX1_captureBegin 10 = .ok (.iload_n 2, 1) := by decide +kernel
theorem dX1_captureBegin_11 : decode cX1_captureBegin 11 = .ok (.ifCond .ne 7, 3) := by decide +kernel
theorem dX1_captureBegin_14 : decode cX1_captureBegin 14 = .ok (.iconst (-1), 1) := by decide +kernel
theorem dX1_captureBegin_15 : decode cX1_captureBegin 15 = .ok (.goto 10, 3) := by decide +kernel
theorem dX1_captureBegin_18 : decode cX1_captureBegin 18 = .ok (.iload_n 2, 1) := by decide +kernel
theorem dX1_captureBegin_19 : decode cX1_captureBegin 19 = .ok (.iconst 1, 1) := by decide +kernel
theorem dX1_captureBegin_20 : decode cX1_captureBegin 20 = .ok (.isub, 1) := by decide +kernel
theorem dX1_captureBegin_21 : decode cX1_captureBegin 21 = .ok (.sipush 128, 3) := by decide +kernel
theorem dX1_captureBegin_24 : decode cX1_captureBegin 24 = .ok (.idiv, 1) := by decide +kernel
theorem dX1_captureBegin_25 : decode cX1_captureBegin 25 = .ok (.ireturn, 1) := by decide +kernel
theorem dX1_captureEnd_0 : decode cX1_captureEnd 0 = .ok (.aload_n 0, 1) := by decide +kernel
theorem dX1_captureEnd_1 : decode cX1_captureEnd 1 = .ok (.sipush 256, 3) := by decide +kernel
theorem dX1_captureEnd_4 : decode cX1_captureEnd 4 = .ok (.iload_n 1, 1) := by decide +kernel
theorem dX1_captureEnd_5 : decode cX1_captureEnd 5 = .ok (.iadd, 1) := by decide +kernel
theorem dX1_captureEnd_6 : decode cX1_captureEnd 6 = .ok (.invokevirtual 204, 3) := by decide +kernel
theorem dX1_captureEnd_9 : decode cX1_captureEnd 9 = .ok (.istore_n 2, 1) := by decide +kernel
theorem dX1_captureEnd_10 : decode cX1_captureEnd 10 = .ok (.iload_n 2, 1) := by decide +kernel
theorem dX1_captureEnd_11 : decode cX1_captureEnd 11 = .ok (.ifCond .ne 7, 3) := by decide +kernel
theorem dX1_captureEnd_14 : decode cX1_captureEnd 14 = .ok (.iconst (-1), 1) := by decide +kernel
theorem dX1_captureEnd_15 : decode cX1_captureEnd 15 = .ok (.goto 10, 3) := by decide +kernel
theorem dX1_captureEnd_18 : decode cX1_captureEnd 18 = .ok (.iload_n 2, 1) := by decide +kernel
theorem dX1_captureEnd_19 : decode cX1_captureEnd 19 = .ok (.iconst 1, 1) := by decide +kernel
theorem dX1_captureEnd_20 : decode cX1_captureEnd 20 = .ok (.isub, 1) := by decide +kernel
theorem dX1_captureEnd_21 : decode cX1_captureEnd 21 = .ok (.sipush 128, 3) := by decide +kernel
theorem dX1_captureEnd_24 : decode cX1_captureEnd 24 = .ok (.irem, 1) := by decide +kernel
theorem dX1_captureEnd_25 : decode cX1_captureEnd 25 = .ok (.ireturn, 1) := by decide +kernel
theorem dX1_cell_0 : decode cX1_cell 0 = .ok (.iload_n 1, 1) := by decide +kernel
theorem dX1_cell_1 : decode cX1_cell 1 = .ok (.ifCond .lt 21, 3) := by decide +kernel
theorem dX1_cell_4 : decode cX1_cell 4 = .ok (.iload_n 1, 1) := by decide +kernel
theorem dX1_cell_5 : decode cX1_cell 5 = .ok (.aload_n 0, 1) := by decide +kernel
theorem dX1_cell_6 : decode cX1_cell 6 = .ok (.getfield 29, 3) := by decide +kernel
theorem dX1_cell_9 : decode cX1_cell 9 = .ok (.arraylength, 1) := by decide +kernel
theorem dX1_cell_10 : decode cX1_cell 10 = .ok (.if_icmp .ge 12, 3) := by decide +kernel
theorem dX1_cell_13 : decode cX1_cell 13 = .ok (.aload_n 0, 1) := by decide +kernel
theorem dX1_cell_14 : decode cX1_cell 14 = .ok (.getfield 29, 3) := by decide +kernel
theorem dX1_cell_17 : decode cX1_cell 17 = .ok (.iload_n 1, 1) := by decide +kernel
theorem dX1_cell_18 : decode cX1_cell 18 = .ok (.iaload, 1) := by decide +kernel
theorem dX1_cell_19 : decode cX1_cell 19 = .ok (.goto 4, 3) := by decide +kernel
theorem dX1_cell_22 : decode cX1_cell 22 = .ok (.iconst 0, 1) := by decide +kernel
theorem dX1_cell_23 : decode cX1_cell 23 = .ok (.ireturn, 1) := by decide +kernel
theorem dX1_cutToBase_0 : decode cX1_cutToBase 0 = .ok (.aload_n 0, 1) := by decide +kernel
theorem dX1_cutToBase_1 : decode cX1_cutToBase 1 = .ok (.getfield 68, 3) := by decide +kernel
theorem dX1_cutToBase_4 : decode cX1_cutToBase 4 = .ok (.ifCond .lt 33, 3) := by decide +kernel
theorem dX1_cutToBase_7 : decode cX1_cutToBase 7 = .ok (.aload_n 0, 1) := by decide +kernel
theorem dX1_cutToBase_8 : decode cX1_cutToBase 8 = .ok (.getfield 68, 3) := by decide +kernel
theorem dX1_cutToBase_11 : decode cX1_cutToBase 11 = .ok (.sipush 256, 3) := by decide +kernel
theorem dX1_cutToBase_14 : decode cX1_cutToBase 14 = .ok (.if_icmp .ge 23, 3) := by decide +kernel
theorem dX1_cutToBase_17 : decode cX1_cutToBase 17 = .ok (.aload_n 0, 1) := by decide +kernel
theorem dX1_cutToBase_18 : decode cX1_cutToBase 18 = .ok (.aload_n 0, 1) := by decide +kernel
theorem dX1_cutToBase_19 : decode cX1_cutToBase 19 = .ok (.getfield 74, 3) := by decide +kernel
theorem dX1_cutToBase_22 : decode cX1_cutToBase 22 = .ok (.aload_n 0, 1) := by decide +kernel
theorem dX1_cutToBase_23 : decode cX1_cutToBase 23 = .ok (.getfield 33, 3) := by decide +kernel
theorem dX1_cutToBase_26 : decode cX1_cutToBase 26 = .ok (.aload_n 0, 1) := by decide +kernel
theorem dX1_cutToBase_27 : decode cX1_cutToBase 27 = .ok (.getfield 68, 3) := by decide +kernel
theorem dX1_cutToBase_30 : decode cX1_cutToBase 30 = .ok (.iaload, 1) := by decide +kernel
theorem dX1_cutToBase_31 : decode cX1_cutToBase 31 = .ok (.invokestatic 86, 3) := by decide +kernel
theorem dX1_cutToBase_34 : decode cX1_cutToBase 34 = .ok (.putfield 74, 3) := by decide +kernel
theorem dX1_cutToBase_37 : decode cX1_cutToBase 37 = .ok (.return_, 1) := by decide +kernel
theorem dX1_endLoop_0 : decode cX1_endLoop 0 = .ok (.aload_n 0, 1) := by decide +kernel
theorem dX1_endLoop_1 : decode cX1_endLoop 1 = .ok (.getfield 14, 3) := by decide +kernel
theorem dX1_endLoop_4 : decode cX1_endLoop 4 = .ok (.aload_n 0, 1) := by decide +kernel
theorem dX1_endLoop_5 : decode cX1_endLoop 5 = .ok (.getfield 68, 3) := by decide +kernel
theorem dX1_endLoop_8 : decode cX1_endLoop 8 = .ok (.invokevirtual 181, 3) := by decide +kernel
theorem dX1_endLoop_11 : decode cX1_endLoop 11 = .ok (.iconst 2, 1) := by decide +kernel
theorem dX1_endLoop_12 : decode cX1_endLoop 12 = .ok (.if_icmp .ne 7, 3) := by decide +kernel
theorem dX1_endLoop_15 : decode cX1_endLoop 15 = .ok (.aload_n 0, 1) := by decide +kernel
theorem dX1_endLoop_16 : decode cX1_endLoop 16 = .ok (.invokevirtual 216, 3) := by decide +kernel
theorem dX1_endLoop_19 : decode cX1_endLoop 19 = .ok (.aload_n 0, 1) := by decide +kernel
theorem dX1_endLoop_20 : decode cX1_endLoop 20 = .ok (.iconst 1, 1) := by decide +kernel
theorem dX1_endLoop_21 : decode cX1_endLoop 21 = .ok (.putfield 71, 3) := by decide +kernel
theorem dX1_endLoop_24 : decode cX1_endLoop 24 = .ok (.return_, 1) := by decide +kernel
theorem dX1_endTurn_0 : decode cX1_endTurn 0 = .ok (.aload_n 0, 1) := by decide +kernel
theorem dX1_endTurn_1 : decode cX1_endTurn 1 = .ok (.aload_n 0, 1) := by decide +kernel
theorem dX1_endTurn_2 : decode cX1_endTurn 2 = .ok (.getfield 68, 3) := by decide +kernel
theorem dX1_endTurn_5 : decode cX1_endTurn 5 = .ok (.invokevirtual 204, 3) := by decide +kernel
theorem dX1_endTurn_8 : decode cX1_endTurn 8 = .ok (.sipush 128, 3) := by decide +kernel
theorem dX1_endTurn_11 : decode cX1_endTurn 11 = .ok (.idiv, 1) := by decide +kernel
theorem dX1_endTurn_12 : decode cX1_endTurn 12 = .ok (.istore_n 1, 1) := by decide +kernel
theorem dX1_endTurn_13 : decode cX1_endTurn 13 = .ok (.aload_n 0, 1) := by decide +kernel
theorem dX1_endTurn_14 : decode cX1_endTurn 14 = .ok (.aload_n 0, 1) := by decide +kernel
theorem dX1_endTurn_15 : decode cX1_endTurn 15 = .ok (.getfield 68, 3) := by decide +kernel
theorem dX1_endTurn_18 : decode cX1_endTurn 18 = .ok (.invokevirtual 204, 3) := by decide +kernel
theorem dX1_endTurn_21 : decode cX1_endTurn 21 = .ok (.sipush 128, 3) := by decide +kernel
theorem dX1_endTurn_24 : decode cX1_endTurn 24 = .ok (.irem, 1) := by decide +kernel
theorem dX1_endTurn_25 : decode cX1_endTurn 25 = .ok (.istore_n 2, 1) := by decide +kernel
theorem dX1_endTurn_26 : decode cX1_endTurn 26 = .ok (.aload_n 0, 1) := by decide +kernel
theorem dX1_endTurn_27 : decode cX1_endTurn 27 = .ok (.iload_n 1, 1) := by decide +kernel
theorem dX1_endTurn_28 : decode cX1_endTurn 28 = .ok (.aload_n 0, 1) := by decide +kernel
theorem dX1_endTurn_29 : decode cX1_endTurn 29 = .ok (.getfield 14, 3) := by decide +kernel
theorem dX1_endTurn_32 : decode cX1_endTurn 32 = .ok (.aload_n 0, 1) := by decide +kernel
theorem dX1_endTurn_33 : decode cX1_endTurn 33 = .ok (.getfield 68, 3) := by decide +kernel
theorem dX1_endTurn_36 : decode cX1_endTurn 36 = .ok (.invokevirtual 210, 3) := by decide +kernel
theorem dX1_endTurn_39 : decode cX1_endTurn 39 = .ok (.if_icmp .le 15, 3) := by decide +kernel
theorem dX1_endTurn_42 : decode cX1_endTurn 42 = .ok (.aload_n 0, 1) := by decide +kernel
theorem dX1_endTurn_43 : decode cX1_endTurn 43 = .ok (.getfield 65, 3) := by decide +kernel
theorem dX1_endTurn_46 : decode cX1_endTurn 46 = .ok (.iload_n 2, 1) := by decide +kernel
theorem dX1_endTurn_47 : decode cX1_endTurn 47 = .ok (.if_icmp .ne 7, 3) := by decide +kernel
theorem dX1_endTurn_50 : decode cX1_endTurn 50 = .ok (.iconst 2, 1) := by decide +kernel
theorem dX1_endTurn_51 : decode cX1_endTurn 51 = .ok (.goto 4, 3) := by decide +kernel
theorem dX1_endTurn_54 : decode cX1_endTurn 54 = .ok (.iconst 3, 1) := by decide +kernel
theorem dX1_endTurn_55 : decode cX1_endTurn 55 = .ok (.putfield 71, 3) := by decide +kernel
theorem dX1_endTurn_58 : decode cX1_endTurn 58 = .ok (.return_, 1) := by decide +kernel
theorem dX1_enterPart_0 : decode cX1_enterPart 0 = .ok (.aload_n 0, 1) := by decide +kernel
theorem dX1_enterPart_1 : decode cX1_enterPart 1 = .ok (.getfield 14, 3) := by decide +kernel
theorem dX1_enterPart_4 : decode cX1_enterPart 4 = .ok (.aload_n 0, 1) := by decide +kernel
theorem dX1_enterPart_5 : decode cX1_enterPart 5 = .ok (.getfield 68, 3) := by decide +kernel
theorem dX1_enterPart_8 : decode cX1_enterPart 8 = .ok (.invokevirtual 153, 3) := by decide +kernel
theorem dX1_enterPart_11 : decode cX1_enterPart 11 = .ok (.istore_n 1, 1) := by decide +kernel
theorem dX1_enterPart_12 : decode cX1_enterPart 12 = .ok (.iload_n 1, 1) := by decide +kernel
theorem dX1_enterPart_13 : decode cX1_enterPart 13 = .ok (.iconst (-1), 1) := by decide +kernel
theorem dX1_enterPart_14 : decode cX1_enterPart 14 = .ok (.if_icmp .ne 11, 3) := by decide +kernel
theorem dX1_enterPart_17 : decode cX1_enterPart 17 = .ok (.aload_n 0, 1) := by decide +kernel
theorem dX1_enterPart_18 : decode cX1_enterPart 18 = .ok (.iconst 1, 1) := by decide +kernel
theorem dX1_enterPart_19 : decode cX1_enterPart 19 = .ok (.putfield 71, 3) := by decide +kernel
theorem dX1_enterPart_22 : decode cX1_enterPart 22 = .ok (.goto 13, 3) := by decide +kernel
theorem dX1_enterPart_25 : decode cX1_enterPart 25 = .ok (.aload_n 0, 1) := by decide +kernel
theorem dX1_enterPart_26 : decode cX1_enterPart 26 = .ok (.iload_n 1, 1) := by decide +kernel
theorem dX1_enterPart_27 : decode cX1_enterPart 27 = .ok (.putfield 68, 3) := by decide +kernel
theorem dX1_enterPart_30 : decode cX1_enterPart 30 = .ok (.aload_n 0, 1) := by decide +kernel
theorem dX1_enterPart_31 : decode cX1_enterPart 31 = .ok (.iconst 0, 1) := by decide +kernel
theorem dX1_enterPart_32 : decode cX1_enterPart 32 = .ok (.putfield 71, 3) := by decide +kernel
theorem dX1_enterPart_35 : decode cX1_enterPart 35 = .ok (.return_, 1) := by decide +kernel
theorem dX1_entryOf_0 : decode cX1_entryOf 0 = .ok (.iload_n 1, 1) := by decide +kernel
theorem dX1_entryOf_1 : decode cX1_entryOf 1 = .ok (.ifCond .lt 19, 3) := by decide +kernel
theorem dX1_entryOf_4 : decode cX1_entryOf 4 = .ok (.iload_n 1, 1) := by decide +kernel
theorem dX1_entryOf_5 : decode cX1_entryOf 5 = .ok (.sipush 256, 3) := by decide +kernel
theorem dX1_entryOf_8 : decode cX1_entryOf 8 = .ok (.if_icmp .ge 12, 3) := by decide +kernel
theorem dX1_entryOf_11 : decode cX1_entryOf 11 = .ok (.aload_n 0, 1) := by decide +kernel
theorem dX1_entryOf_12 : decode cX1_entryOf 12 = .ok (.getfield 36, 3) := by decide +kernel
theorem dX1_entryOf_15 : decode cX1_entryOf 15 = .ok (.iload_n 1, 1) := by decide +kernel
theorem dX1_entryOf_16 : decode cX1_entryOf 16 = .ok (.iaload, 1) := by decide +kernel
theorem dX1_entryOf_17 : decode cX1_entryOf 17 = .ok (.goto 4, 3) := by decide +kernel
theorem dX1_entryOf_20 : decode cX1_entryOf 20 = .ok (.iconst 0, 1) := by decide +kernel
theorem dX1_entryOf_21 : decode cX1_entryOf 21 = .ok (.ireturn, 1) := by decide +kernel
theorem dX1_finish_0 : decode cX1_finish 0 = .ok (.aload_n 0, 1) := by decide +kernel
theorem dX1_finish_1 : decode cX1_finish 1 = .ok (.getfield 51, 3) := by decide +kernel
theorem dX1_finish_4 : decode cX1_finish 4 = .ok (.ifCond .eq 25, 3) := by decide +kernel
theorem dX1_finish_7 : decode cX1_finish 7 = .ok (.aload_n 0, 1) := by decide +kernel
theorem dX1_finish_8 : decode cX1_finish 8 = .ok (.getfield 65, 3) := by decide +kernel
theorem dX1_finish_11 : decode cX1_finish 11 = .ok (.aload_n 0, 1) := by decide +kernel
theorem dX1_finish_12 : decode cX1_finish 12 = .ok (.getfield 25, 3) := by decide +kernel
theorem dX1_finish_15 : decode cX1_finish 15 = .ok (.getfield 171, 3) := by decide +kernel
theorem dX1_finish_18 : decode cX1_finish 18 = .ok (.if_icmp .eq 11, 3) := by decide +kernel
theorem dX1_finish_21 : decode cX1_finish 21 = .ok (.aload_n 0, 1) := by decide +kernel
theorem dX1_finish_22 : decode cX1_finish 22 = .ok (.iconst 2, 1) := by decide +kernel
theorem dX1_finish_23 : decode cX1_finish 23 = .ok (.putfield 71, 3) := by decide +kernel
theorem dX1_finish_26 : decode cX1_finish 26 = .ok (.goto 8, 3) := by decide +kernel
theorem dX1_finish_29 : decode cX1_finish 29 = .ok (.aload_n 0, 1) := by decide +kernel
theorem dX1_finish_30 : decode cX1_finish 30 = .ok (.iconst 1, 1) := by decide +kernel
theorem dX1_finish_31 : decode cX1_finish 31 = .ok (.putfield 95, 3) := by decide +kernel
theorem dX1_finish_34 : decode cX1_finish 34 = .ok (.return_, 1) := by decide +kernel
theorem dX1_leaveLook_0 : decode cX1_leaveLook 0 = .ok (.aload_n 0, 1) := by decide +kernel
theorem dX1_leaveLook_1 : decode cX1_leaveLook 1 = .ok (.getfield 14, 3) := by decide +kernel
theorem dX1_leaveLook_4 : decode cX1_leaveLook 4 = .ok (.aload_n 0, 1) := by decide +kernel
theorem dX1_leaveLook_5 : decode cX1_leaveLook 5 = .ok (.getfield 68, 3) := by decide +kernel
theorem dX1_leaveLook_8 : decode cX1_leaveLook 8 = .ok (.invokevirtual 181, 3) := by decide +kernel
theorem dX1_leaveLook_11 : decode cX1_leaveLook 11 = .ok (.istore_n 1, 1) := by decide +kernel
theorem dX1_leaveLook_12 : decode cX1_leaveLook 12 = .ok (.aload_n 0, 1) := by decide +kernel
theorem dX1_leaveLook_13 : decode cX1_leaveLook 13 = .ok (.invokevirtual 219, 3) := by decide +kernel
theorem dX1_leaveLook_16 : decode cX1_leaveLook 16 = .ok (.ifCond .eq 24, 3) := by decide +kernel
theorem dX1_leaveLook_19 : decode cX1_leaveLook 19 = .ok (.aload_n 0, 1) := by decide +kernel
theorem dX1_leaveLook_20 : decode cX1_leaveLook 20 = .ok (.getfield 65, 3) := by decide +kernel
theorem dX1_leaveLook_23 : decode cX1_leaveLook 23 = .ok (.aload_n 0, 1) := by decide +kernel
theorem dX1_leaveLook_24 : decode cX1_leaveLook 24 = .ok (.aload_n 0, 1) := by decide +kernel
theorem dX1_leaveLook_25 : decode cX1_leaveLook 25 = .ok (.getfield 68, 3) := by decide +kernel
theorem dX1_leaveLook_28 : decode cX1_leaveLook 28 = .ok (.invokevirtual 222, 3) := by decide +kernel
theorem dX1_leaveLook_31 : decode cX1_leaveLook 31 = .ok (.if_icmp .eq 9, 3) := by decide +kernel
theorem dX1_leaveLook_34 : decode cX1_leaveLook 34 = .ok (.aload_n 0, 1) := by decide +kernel
theorem dX1_leaveLook_35 : decode cX1_leaveLook 35 = .ok (.iconst 2, 1) := by decide +kernel
theorem dX1_leaveLook_36 : decode cX1_leaveLook 36 = .ok (.putfield 71, 3) := by decide +kernel
theorem dX1_leaveLook_39 : decode cX1_leaveLook 39 = .ok (.return_, 1) := by decide +kernel
theorem dX1_leaveLook_40 : decode cX1_leaveLook 40 = .ok (.aload_n 0, 1) := by decide +kernel
theorem dX1_leaveLook_41 : decode cX1_leaveLook 41 = .ok (.invokevirtual 216, 3) := by decide +kernel
theorem dX1_leaveLook_44 : decode cX1_leaveLook 44 = .ok (.aload_n 0, 1) := by decide +kernel
theorem dX1_leaveLook_45 : decode cX1_leaveLook 45 = .ok (.aload_n 0, 1) := by decide +kernel
theorem dX1_leaveLook_46 : decode cX1_leaveLook 46 = .ok (.aload_n 0, 1) := by decide +kernel
theorem dX1_leaveLook_47 : decode cX1_leaveLook 47 = .ok (.getfield 68, 3) := by decide +kernel
theorem dX1_leaveLook_50 : decode cX1_leaveLook 50 = .ok (.invokevirtual 222, 3) := by decide +kernel
theorem dX1_leaveLook_53 : decode cX1_leaveLook 53 = .ok (.putfield 65, 3) := by decide +kernel
theorem dX1_leaveLook_56 : decode cX1_leaveLook 56 = .ok (.aload_n 0, 1) := by decide +kernel
theorem dX1_leaveLook_57 : decode cX1_leaveLook 57 = .ok (.iload_n 1, 1) := by decide +kernel
theorem dX1_leaveLook_58 : decode cX1_leaveLook 58 = .ok (.ifCond .eq 8, 3) := by decide +kernel
theorem dX1_leaveLook_61 : decode cX1_leaveLook 61 = .ok (.iload_n 1, 1) := by decide +kernel
theorem dX1_leaveLook_62 : decode cX1_leaveLook 62 = .ok (.iconst 2, 1) := by decide +kernel
theorem dX1_leaveLook_63 : decode cX1_leaveLook 63 = .ok (.if_icmp .ne 7, 3) := by decide +kernel
theorem dX1_leaveLook_66 : decode cX1_leaveLook 66 = .ok (.iconst 1, 1) := by decide +kernel
theorem dX1_leaveLook_67 : decode cX1_leaveLook 67 = .ok (.goto 4, 3) := by decide +kernel
theorem dX1_leaveLook_70 : decode cX1_leaveLook 70 = .ok (.iconst 2, 1) := by decide +kernel
theorem dX1_leaveLook_71 : decode cX1_leaveLook 71 = .ok (.putfield 71, 3) := by decide +kernel
theorem dX1_leaveLook_74 : decode cX1_leaveLook 74 = .ok (.return_, 1) := by decide +kernel
theorem dX1_leavePartOfRow_0 : decode cX1_leavePartOfRow 0 = .ok (.aload_n 0, 1) := by decide +kernel
theorem dX1_leavePartOfRow_1 : decode cX1_leavePartOfRow 1 = .ok (.getfield 14, 3) := by decide +kernel
theorem dX1_leavePartOfRow_4 : decode cX1_leavePartOfRow 4 = .ok (.iload_n 1, 1) := by decide +kernel
theorem dX1_leavePartOfRow_5 : decode cX1_leavePartOfRow 5 = .ok (.invokevirtual 195, 3) := by decide +kernel
theorem dX1_leavePartOfRow_8 : decode cX1_leavePartOfRow 8 = .ok (.istore_n 2, 1) := by decide +kernel
theorem dX1_leavePartOfRow_9 : decode cX1_leavePartOfRow 9 = .ok (.iload_n 2, 1) := by decide +kernel
theorem dX1_leavePartOfRow_10 : decode cX1_leavePartOfRow 10 = .ok (.iconst (-1), 1) := by decide +kernel
theorem dX1_leavePartOfRow_11 : decode cX1_leavePartOfRow 11 = .ok (.if_icmp .eq 13, 3) := by decide +kernel
theorem dX1_leavePartOfRow_14 : decode cX1_leavePartOfRow 14 = .ok (.aload_n 0, 1) := by decide +kernel
theorem dX1_leavePartOfRow_15 : decode cX1_leavePartOfRow 15 = .ok (.iload_n 2, 1) := by decide +kernel
theorem dX1_leavePartOfRow_16 : decode cX1_leavePartOfRow 16 = .ok (.putfield 68, 3) := by decide +kernel
theorem dX1_leavePartOfRow_19 : decode cX1_leavePartOfRow 19 = .ok (.aload_n 0, 1) := by decide +kernel
theorem dX1_leavePartOfRow_20 : decode cX1_leavePartOfRow 20 = .ok (.iconst 0, 1) := by decide +kernel
theorem dX1_leavePartOfRow_21 : decode cX1_leavePartOfRow 21 = .ok (.putfield 71, 3) := by decide +kernel
theorem dX1_leavePartOfRow_24 : decode cX1_leavePartOfRow 24 = .ok (.return_, 1) := by decide +kernel
theorem dX1_lookAgain_0 : decode cX1_lookAgain 0 = .ok (.aload_n 0, 1) := by decide +kernel
theorem dX1_lookAgain_1 : decode cX1_lookAgain 1 = .ok (.invokevirtual 219, 3) := by decide +kernel
theorem dX1_lookAgain_4 : decode cX1_lookAgain 4 = .ok (.ifCond .eq 53, 3) := by decide +kernel
theorem dX1_lookAgain_7 : decode cX1_lookAgain 7 = .ok (.aload_n 0, 1) := by decide +kernel
theorem dX1_lookAgain_8 : decode cX1_lookAgain 8 = .ok (.getfield 68, 3) := by decide +kernel
theorem dX1_lookAgain_11 : decode cX1_lookAgain 11 = .ok (.ifCond .lt 46, 3) := by decide +kernel
theorem dX1_lookAgain_14 : decode cX1_lookAgain 14 = .ok (.aload_n 0, 1) := by decide +kernel
theorem dX1_lookAgain_15 : decode cX1_lookAgain 15 = .ok (.getfield 68, 3) := by decide +kernel
theorem dX1_lookAgain_18 : decode cX1_lookAgain 18 = .ok (.sipush 256, 3) := by decide +kernel
theorem dX1_lookAgain_21 : decode cX1_lookAgain 21 = .ok (.if_icmp .ge 36, 3) := by decide +kernel
theorem dX1_lookAgain_24 : decode cX1_lookAgain 24 = .ok (.aload_n 0, 1) := by decide +kernel
theorem dX1_lookAgain_25 : decode cX1_lookAgain 25 = .ok (.getfield 39, 3) := by decide +kernel
theorem dX1_lookAgain_28 : decode cX1_lookAgain 28 = .ok (.aload_n 0, 1) := by decide +kernel
theorem dX1_lookAgain_29 : decode cX1_lookAgain 29 = .ok (.getfield 68, 3) := by decide +kernel
theorem dX1_lookAgain_32 : decode cX1_lookAgain 32 = .ok (.iaload, 1) := by decide +kernel
theorem dX1_lookAgain_33 : decode cX1_lookAgain 33 = .ok (.ifCond .le 24, 3) := by decide +kernel
theorem dX1_lookAgain_36 : decode cX1_lookAgain 36 = .ok (.aload_n 0, 1) := by decide +kernel
theorem dX1_lookAgain_37 : decode cX1_lookAgain 37 = .ok (.getfield 39, 3) := by decide +kernel
theorem dX1_lookAgain_40 : decode cX1_lookAgain 40 = .ok (.aload_n 0, 1) := by decide +kernel
theorem dX1_lookAgain_41 : decode cX1_lookAgain 41 = .ok (.getfield 68, 3) := by decide +kernel
theorem dX1_lookAgain_44 : decode cX1_lookAgain 44 = .ok (.dup2, 1) := by decide +kernel
theorem dX1_lookAgain_45 : decode cX1_lookAgain 45 = .ok (.iaload, 1) := by decide +kernel
theorem dX1_lookAgain_46 : decode cX1_lookAgain 46 = .ok (.iconst 1, 1) := by decide +kernel
theorem dX1_lookAgain_47 : decode cX1_lookAgain 47 = .ok (.isub, 1) := by decide +kernel
theorem dX1_lookAgain_48 : decode cX1_lookAgain 48 = .ok (.iastore, 1) := by decide +kernel
theorem dX1_lookAgain_49 : decode cX1_lookAgain 49 = .ok (.aload_n 0, 1) := by decide +kernel
theorem dX1_lookAgain_50 : decode cX1_lookAgain 50 = .ok (.iconst 5, 1) := by decide +kernel
theorem dX1_lookAgain_51 : decode cX1_lookAgain 51 = .ok (.putfield 71, 3) := by decide +kernel
theorem dX1_lookAgain_54 : decode cX1_lookAgain 54 = .ok (.goto 43, 3) := by decide +kernel
theorem dX1_lookAgain_57 : decode cX1_lookAgain 57 = .ok (.aload_n 0, 1) := by decide +kernel
theorem dX1_lookAgain_58 : decode cX1_lookAgain 58 = .ok (.getfield 14, 3) := by decide +kernel
theorem dX1_lookAgain_61 : decode cX1_lookAgain 61 = .ok (.aload_n 0, 1) := by decide +kernel
theorem dX1_lookAgain_62 : decode cX1_lookAgain 62 = .ok (.getfield 68, 3) := by decide +kernel
theorem dX1_lookAgain_65 : decode cX1_lookAgain 65 = .ok (.invokevirtual 181, 3) := by decide +kernel
theorem dX1_lookAgain_68 : decode cX1_lookAgain 68 = .ok (.iconst 2, 1) := by decide +kernel
theorem dX1_lookAgain_69 : decode cX1_lookAgain 69 = .ok (.if_icmp .ne 11, 3) := by decide +kernel
theorem dX1_lookAgain_72 : decode cX1_lookAgain 72 = .ok (.aload_n 0, 1) := by decide +kernel
theorem dX1_lookAgain_73 : decode cX1_lookAgain 73 = .ok (.iconst 2, 1) := by decide +kernel
theorem dX1_lookAgain_74 : decode cX1_lookAgain 74 = .ok (.putfield 71, 3) := by decide +kernel
theorem dX1_lookAgain_77 : decode cX1_lookAgain 77 = .ok (.goto 20, 3) := by decide +kernel
theorem dX1_lookAgain_80 : decode cX1_lookAgain 80 = .ok (.aload_n 0, 1) := by decide +kernel
theorem dX1_lookAgain_81 : decode cX1_lookAgain 81 = .ok (.aload_n 0, 1) := by decide +kernel
theorem dX1_lookAgain_82 : decode cX1_lookAgain 82 = .ok (.aload_n 0, 1) := by decide +kernel
theorem dX1_lookAgain_83 : decode cX1_lookAgain 83 = .ok (.getfield 68, 3) := by decide +kernel
theorem dX1_lookAgain_86 : decode cX1_lookAgain 86 = .ok (.invokevirtual 222, 3) := by decide +kernel
theorem dX1_lookAgain_89 : decode cX1_lookAgain 89 = .ok (.putfield 65, 3) := by decide +kernel
theorem dX1_lookAgain_92 : decode cX1_lookAgain 92 = .ok (.aload_n 0, 1) := by decide +kernel
theorem dX1_lookAgain_93 : decode cX1_lookAgain 93 = .ok (.iconst 1, 1) := by decide +kernel
theorem dX1_lookAgain_94 : decode cX1_lookAgain 94 = .ok (.putfield 71, 3) := by decide +kernel
theorem dX1_lookAgain_97 : decode cX1_lookAgain 97 = .ok (.return_, 1) := by decide +kernel
theorem dX1_looksBehind_0 : decode cX1_looksBehind 0 = .ok (.aload_n 0, 1) := by decide +kernel
theorem dX1_looksBehind_1 : decode cX1_looksBehind 1 = .ok (.getfield 14, 3) := by decide +kernel
theorem dX1_looksBehind_4 : decode cX1_looksBehind 4 = .ok (.aload_n 0, 1) := by decide +kernel
theorem dX1_looksBehind_5 : decode cX1_looksBehind 5 = .ok (.getfield 68, 3) := by decide +kernel
theorem dX1_looksBehind_8 : decode cX1_looksBehind 8 = .ok (.invokevirtual 137, 3) := by decide +kernel
theorem dX1_looksBehind_11 : decode cX1_looksBehind 11 = .ok (.bipush 9, 2) := by decide +kernel
theorem dX1_looksBehind_13 : decode cX1_looksBehind 13 = .ok (.if_icmp .ne 22, 3) := by decide +kernel
theorem dX1_looksBehind_16 : decode cX1_looksBehind 16 = .ok (.aload_n 0, 1) := by decide +kernel
theorem dX1_looksBehind_17 : decode cX1_looksBehind 17 = .ok (.getfield 14, 3) := by decide +kernel
theorem dX1_looksBehind_20 : decode cX1_looksBehind 20 = .ok (.aload_n 0, 1) := by decide +kernel
theorem dX1_looksBehind_21 : decode cX1_looksBehind 21 = .ok (.getfield 68, 3) := by decide +kernel
theorem dX1_looksBehind_24 : decode cX1_looksBehind 24 = .ok (.invokevirtual 181, 3) := by decide +kernel
theorem dX1_looksBehind_27 : decode cX1_looksBehind 27 = .ok (.iconst 2, 1) := by decide +kernel
theorem dX1_looksBehind_28 : decode cX1_looksBehind 28 = .ok (.if_icmp .lt 7, 3) := by decide +kernel
theorem dX1_looksBehind_31 : decode cX1_looksBehind 31 = .ok (.iconst 1, 1) := by decide +kernel
theorem dX1_looksBehind_32 : decode cX1_looksBehind 32 = .ok (.goto 4, 3) := by decide +kernel
theorem dX1_looksBehind_35 : decode cX1_looksBehind 35 = .ok (.iconst 0, 1) := by decide +kernel
theorem dX1_looksBehind_36 : decode cX1_looksBehind 36 = .ok (.ireturn, 1) := by decide +kernel
theorem dX1_markBase_0 : decode cX1_markBase 0 = .ok (.aload_n 0, 1) := by decide +kernel
theorem dX1_markBase_1 : decode cX1_markBase 1 = .ok (.getfield 68, 3) := by decide +kernel
theorem dX1_markBase_4 : decode cX1_markBase 4 = .ok (.ifCond .lt 52, 3) := by decide +kernel
theorem dX1_markBase_7 : decode cX1_markBase 7 = .ok (.aload_n 0, 1) := by decide +kernel
theorem dX1_markBase_8 : decode cX1_markBase 8 = .ok (.getfield 68, 3) := by decide +kernel
theorem dX1_markBase_11 : decode cX1_markBase 11 = .ok (.sipush 256, 3) := by decide +kernel
theorem dX1_markBase_14 : decode cX1_markBase 14 = .ok (.if_icmp .ge 42, 3) := by decide +kernel
theorem dX1_markBase_17 : decode cX1_markBase 17 = .ok (.aload_n 0, 1) := by decide +kernel
theorem dX1_markBase_18 : decode cX1_markBase 18 = .ok (.getfield 33, 3) := by decide +kernel
theorem dX1_markBase_21 : decode cX1_markBase 21 = .ok (.aload_n 0, 1) := by decide +kernel
theorem dX1_markBase_22 : decode cX1_markBase 22 = .ok (.getfield 68, 3) := by decide +kernel
theorem dX1_markBase_25 : decode cX1_markBase 25 = .ok (.aload_n 0, 1) := by decide +kernel
theorem dX1_markBase_26 : decode cX1_markBase 26 = .ok (.getfield 74, 3) := by decide +kernel
theorem dX1_markBase_29 : decode cX1_markBase 29 = .ok (.iastore, 1) := by decide +kernel
theorem dX1_markBase_30 : decode cX1_markBase 30 = .ok (.aload_n 0, 1) := by decide +kernel
theorem dX1_markBase_31 : decode cX1_markBase 31 = .ok (.getfield 36, 3) := by decide +kernel
theorem dX1_markBase_34 : decode cX1_markBase 34 = .ok (.aload_n 0, 1) := by decide +kernel
theorem dX1_markBase_35 : decode cX1_markBase 35 = .ok (.getfield 68, 3) := by decide +kernel
theorem dX1_markBase_38 : decode cX1_markBase 38 = .ok (.aload_n 0, 1) := by decide +kernel
theorem dX1_markBase_39 : decode cX1_markBase 39 = .ok (.getfield 65, 3) := by decide +kernel
theorem dX1_markBase_42 : decode cX1_markBase 42 = .ok (.iastore, 1) := by decide +kernel
theorem dX1_markBase_43 : decode cX1_markBase 43 = .ok (.aload_n 0, 1) := by decide +kernel
theorem dX1_markBase_44 : decode cX1_markBase 44 = .ok (.getfield 39, 3) := by decide +kernel
theorem dX1_markBase_47 : decode cX1_markBase 47 = .ok (.aload_n 0, 1) := by decide +kernel
theorem dX1_markBase_48 : decode cX1_markBase 48 = .ok (.getfield 68, 3) := by decide +kernel
theorem dX1_markBase_51 : decode cX1_markBase 51 = .ok (.aload_n 0, 1) := by decide +kernel
theorem dX1_markBase_52 : decode cX1_markBase 52 = .ok (.getfield 65, 3) := by decide +kernel
theorem dX1_markBase_55 : decode cX1_markBase 55 = .ok (.iastore, 1) := by decide +kernel
theorem dX1_markBase_56 : decode cX1_markBase 56 = .ok (.return_, 1) := by decide +kernel
theorem dX1_startAt_0 : decode cX1_startAt 0 = .ok (.aload_n 0, 1) := by decide +kernel
theorem dX1_startAt_1 : decode cX1_startAt 1 = .ok (.iload_n 1, 1) := by decide +kernel
theorem dX1_startAt_2 : decode cX1_startAt 2 = .ok (.putfield 62, 3) := by decide +kernel
theorem dX1_startAt_5 : decode cX1_startAt 5 = .ok (.aload_n 0, 1) := by decide +kernel
theorem dX1_startAt_6 : decode cX1_startAt 6 = .ok (.iload_n 1, 1) := by decide +kernel
theorem dX1_startAt_7 : decode cX1_startAt 7 = .ok (.putfield 65, 3) := by decide +kernel
theorem dX1_startAt_10 : decode cX1_startAt 10 = .ok (.aload_n 0, 1) := by decide +kernel
theorem dX1_startAt_11 : decode cX1_startAt 11 = .ok (.iconst 0, 1) := by decide +kernel
theorem dX1_startAt_12 : decode cX1_startAt 12 = .ok (.putfield 68, 3) := by decide +kernel
theorem dX1_startAt_15 : decode cX1_startAt 15 = .ok (.aload_n 0, 1) := by decide +kernel
theorem dX1_startAt_16 : decode cX1_startAt 16 = .ok (.iconst 0, 1) := by decide +kernel
theorem dX1_startAt_17 : decode cX1_startAt 17 = .ok (.putfield 71, 3) := by decide +kernel
theorem dX1_startAt_20 : decode cX1_startAt 20 = .ok (.aload_n 0, 1) := by decide +kernel
theorem dX1_startAt_21 : decode cX1_startAt 21 = .ok (.iconst 0, 1) := by decide +kernel
theorem dX1_startAt_22 : decode cX1_startAt 22 = .ok (.putfield 74, 3) := by decide +kernel
theorem dX1_startAt_25 : decode cX1_startAt 25 = .ok (.aload_n 0, 1) := by decide +kernel
theorem dX1_startAt_26 : decode cX1_startAt 26 = .ok (.iconst 0, 1) := by decide +kernel
theorem dX1_startAt_27 : decode cX1_startAt 27 = .ok (.putfield 77, 3) := by decide +kernel
theorem dX1_startAt_30 : decode cX1_startAt 30 = .ok (.aload_n 0, 1) := by decide +kernel
theorem dX1_startAt_31 : decode cX1_startAt 31 = .ok (.getfield 29, 3) := by decide +kernel
theorem dX1_startAt_34 : decode cX1_startAt 34 = .ok (.iconst 0, 1) := by decide +kernel
theorem dX1_startAt_35 : decode cX1_startAt 35 = .ok (.invokestatic 80, 3) := by decide +kernel
theorem dX1_startAt_38 : decode cX1_startAt 38 = .ok (.return_, 1) := by decide +kernel
theorem dX1_startFurther_0 : decode cX1_startFurther 0 = .ok (.aload_n 0, 1) := by decide +kernel
theorem dX1_startFurther_1 : decode cX1_startFurther 1 = .ok (.getfield 51, 3) := by decide +kernel
theorem dX1_startFurther_4 : decode cX1_startFurther 4 = .ok (.ifCond .ne 17, 3) := by decide +kernel
theorem dX1_startFurther_7 : decode cX1_startFurther 7 = .ok (.aload_n 0, 1) := by decide +kernel
theorem dX1_startFurther_8 : decode cX1_startFurther 8 = .ok (.getfield 62, 3) := by decide +kernel
theorem dX1_startFurther_11 : decode cX1_startFurther 11 = .ok (.aload_n 0, 1) := by decide +kernel
theorem dX1_startFurther_12 : decode cX1_startFurther 12 = .ok (.getfield 25, 3) := by decide +kernel
theorem dX1_startFurther_15 : decode cX1_startFurther 15 = .ok (.getfield 171, 3) := by decide +kernel
theorem dX1_startFurther_18 : decode cX1_startFurther 18 = .ok (.if_icmp .lt 11, 3) := by decide +kernel
theorem dX1_startFurther_21 : decode cX1_startFurther 21 = .ok (.aload_n 0, 1) := by decide +kernel
theorem dX1_startFurther_22 : decode cX1_startFurther 22 = .ok (.iconst 2, 1) := by decide +kernel
theorem dX1_startFurther_23 : decode cX1_startFurther 23 = .ok (.putfield 95, 3) := by decide +kernel
theorem dX1_startFurther_26 : decode cX1_startFurther 26 = .ok (.goto 13, 3) := by decide +kernel
theorem dX1_startFurther_29 : decode cX1_startFurther 29 = .ok (.aload_n 0, 1) := by decide +kernel
theorem dX1_startFurther_30 : decode cX1_startFurther 30 = .ok (.aload_n 0, 1) := by decide +kernel
theorem dX1_startFurther_31 : decode cX1_startFurther 31 = .ok (.getfield 62, 3) := by decide +kernel
theorem dX1_startFurther_34 : decode cX1_startFurther 34 = .ok (.iconst 1, 1) := by decide +kernel
theorem dX1_startFurther_35 : decode cX1_startFurther 35 = .ok (.iadd, 1) := by decide +kernel
theorem dX1_startFurther_36 : decode cX1_startFurther 36 = .ok (.invokevirtual 59, 3) := by decide +kernel
theorem dX1_startFurther_39 : decode cX1_startFurther 39 = .ok (.return_, 1) := by decide +kernel
theorem dX1_step_0 : decode cX1_step 0 = .ok (.aload_n 0, 1) := by decide +kernel
theorem dX1_step_1 : decode cX1_step 1 = .ok (.getfield 55, 3) := by decide +kernel
theorem dX1_step_4 : decode cX1_step 4 = .ok (.aload_n 0, 1) := by decide +kernel
theorem dX1_step_5 : decode cX1_step 5 = .ok (.getfield 92, 3) := by decide +kernel
theorem dX1_step_8 : decode cX1_step 8 = .ok (.if_icmp .lt 10, 3) := by decide +kernel
theorem dX1_step_11 : decode cX1_step 11 = .ok (.aload_n 0, 1) := by decide +kernel
theorem dX1_step_12 : decode cX1_step 12 = .ok (.iconst 3, 1) := by decide +kernel
theorem dX1_step_13 : decode cX1_step 13 = .ok (.putfield 95, 3) := by decide +kernel
theorem dX1_step_16 : decode cX1_step 16 = .ok (.iconst 0, 1) := by decide +kernel
theorem dX1_step_17 : decode cX1_step 17 = .ok (.ireturn, 1) := by decide +kernel
theorem dX1_step_18 : decode cX1_step 18 = .ok (.aload_n 0, 1) := by decide +kernel
theorem dX1_step_19 : decode cX1_step 19 = .ok (.dup, 1) := by decide +kernel
theorem dX1_step_20 : decode cX1_step 20 = .ok (.getfield 55, 3) := by decide +kernel
theorem dX1_step_23 : decode cX1_step 23 = .ok (.iconst 1, 1) := by decide +kernel
theorem dX1_step_24 : decode cX1_step 24 = .ok (.iadd, 1) := by decide +kernel
theorem dX1_step_25 : decode cX1_step 25 = .ok (.putfield 55, 3) := by decide +kernel
theorem dX1_step_28 : decode cX1_step 28 = .ok (.iconst 1, 1) := by decide +kernel
theorem dX1_step_29 : decode cX1_step 29 = .ok (.ireturn, 1) := by decide +kernel
theorem dX1_tell_0 : decode cX1_tell 0 = .ok (.aload_n 1, 1) := by decide +kernel
theorem dX1_tell_1 : decode cX1_tell 1 = .ok (.invokevirtual 121, 3) := by decide +kernel
theorem dX1_tell_4 : decode cX1_tell 4 = .ok (.aload_n 1, 1) := by decide +kernel
theorem dX1_tell_5 : decode cX1_tell 5 = .ok (.aload_n 0, 1) := by decide +kernel
theorem dX1_tell_6 : decode cX1_tell 6 = .ok (.getfield 62, 3) := by decide +kernel
theorem dX1_tell_9 : decode cX1_tell 9 = .ok (.invokevirtual 124, 3) := by decide +kernel
theorem dX1_tell_12 : decode cX1_tell 12 = .ok (.aload_n 1, 1) := by decide +kernel
theorem dX1_tell_13 : decode cX1_tell 13 = .ok (.aload_n 0, 1) := by decide +kernel
theorem dX1_tell_14 : decode cX1_tell 14 = .ok (.getfield 65, 3) := by decide +kernel
theorem dX1_tell_17 : decode cX1_tell 17 = .ok (.invokevirtual 124, 3) := by decide +kernel
theorem dX1_tell_20 : decode cX1_tell 20 = .ok (.iconst 1, 1) := by decide +kernel
theorem dX1_tell_21 : decode cX1_tell 21 = .ok (.istore_n 2, 1) := by decide +kernel
theorem dX1_tell_22 : decode cX1_tell 22 = .ok (.iload_n 2, 1) := by decide +kernel
theorem dX1_tell_23 : decode cX1_tell 23 = .ok (.aload_n 0, 1) := by decide +kernel
theorem dX1_tell_24 : decode cX1_tell 24 = .ok (.getfield 14, 3) := by decide +kernel
theorem dX1_tell_27 : decode cX1_tell 27 = .ok (.getfield 127, 3) := by decide +kernel
theorem dX1_tell_30 : decode cX1_tell 30 = .ok (.if_icmp .gt 27, 3) := by decide +kernel
theorem dX1_tell_33 : decode cX1_tell 33 = .ok (.aload_n 1, 1) := by decide +kernel
theorem dX1_tell_34 : decode cX1_tell 34 = .ok (.aload_n 0, 1) := by decide +kernel
theorem dX1_tell_35 : decode cX1_tell 35 = .ok (.iload_n 2, 1) := by decide +kernel
theorem dX1_tell_36 : decode cX1_tell 36 = .ok (.invokevirtual 130, 3) := by decide +kernel
theorem dX1_tell_39 : decode cX1_tell 39 = .ok (.invokevirtual 124, 3) := by decide +kernel
theorem dX1_tell_42 : decode cX1_tell 42 = .ok (.aload_n 1, 1) := by decide +kernel
theorem dX1_tell_43 : decode cX1_tell 43 = .ok (.aload_n 0, 1) := by decide +kernel
theorem dX1_tell_44 : decode cX1_tell 44 = .ok (.iload_n 2, 1) := by decide +kernel
theorem dX1_tell_45 : decode cX1_tell 45 = .ok (.invokevirtual 134, 3) := by decide +kernel
theorem dX1_tell_48 : decode cX1_tell 48 = .ok (.invokevirtual 124, 3) := by decide +kernel
theorem dX1_tell_51 : decode cX1_tell 51 = .ok (.iinc 2 1, 3) := by decide +kernel
theorem dX1_tell_54 : decode cX1_tell 54 = .ok (.goto (-32), 3) := by decide +kernel
theorem dX1_tell_57 : decode cX1_tell 57 = .ok (.return_, 1) := by decide +kernel
theorem dX1_undo_0 : decode cX1_undo 0 = .ok (.aload_n 0, 1) := by decide +kernel
theorem dX1_undo_1 : decode cX1_undo 1 = .ok (.getfield 77, 3) := by decide +kernel
theorem dX1_undo_4 : decode cX1_undo 4 = .ok (.iload_n 1, 1) := by decide +kernel
theorem dX1_undo_5 : decode cX1_undo 5 = .ok (.if_icmp .le 79, 3) := by decide +kernel
theorem dX1_undo_8 : decode cX1_undo 8 = .ok (.aload_n 0, 1) := by decide +kernel
theorem dX1_undo_9 : decode cX1_undo 9 = .ok (.getfield 77, 3) := by decide +kernel
theorem dX1_undo_12 : decode cX1_undo 12 = .ok (.ifCond .le 72, 3) := by decide +kernel
theorem dX1_undo_15 : decode cX1_undo 15 = .ok (.aload_n 0, 1) := by decide +kernel
theorem dX1_undo_16 : decode cX1_undo 16 = .ok (.getfield 77, 3) := by decide +kernel
