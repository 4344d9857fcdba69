theorem dX1_askSign_27 : decode cX1_askSign 27 = .ok (.getfield 65, 3) := by decide +kernel
theorem dX1_askSign_30 : decode cX1_askSign 30 = .ok (.invokevirtual 174, 3) := by decide +kernel
theorem dX1_askSign_33 : decode cX1_askSign 33 = .ok (.invokevirtual 177, 3) := by decide +kernel
theorem dX1_askSign_36 : decode cX1_askSign 36 = .ok (.ifCond .eq 7, 3) := by decide +kernel
theorem dX1_askSign_39 : decode cX1_askSign 39 = .ok (.iconst 1, 1) := by decide +kernel
theorem dX1_askSign_40 : decode cX1_askSign 40 = .ok (.goto 4, 3) := by decide +kernel
theorem dX1_askSign_43 : decode cX1_askSign 43 = .ok (.iconst 0, 1) := by decide +kernel
theorem dX1_askSign_44 : decode cX1_askSign 44 = .ok (.istore_n 1, 1) := by decide +kernel
theorem dX1_askSign_45 : decode cX1_askSign 45 = .ok (.aload_n 0, 1) := by decide +kernel
theorem dX1_askSign_46 : decode cX1_askSign 46 = .ok (.dup, 1) := by decide +kernel
theorem dX1_askSign_47 : decode cX1_askSign 47 = .ok (.getfield 65, 3) := by decide +kernel
theorem dX1_askSign_50 : decode cX1_askSign 50 = .ok (.iload_n 1, 1) := by decide +kernel
theorem dX1_askSign_51 : decode cX1_askSign 51 = .ok (.ifCond .eq 7, 3) := by decide +kernel
theorem dX1_askSign_54 : decode cX1_askSign 54 = .ok (.iconst 1, 1) := by decide +kernel
theorem dX1_askSign_55 : decode cX1_askSign 55 = .ok (.goto 4, 3) := by decide +kernel
theorem dX1_askSign_58 : decode cX1_askSign 58 = .ok (.iconst 0, 1) := by decide +kernel
theorem dX1_askSign_59 : decode cX1_askSign 59 = .ok (.iadd, 1) := by decide +kernel
theorem dX1_askSign_60 : decode cX1_askSign 60 = .ok (.putfield 65, 3) := by decide +kernel
theorem dX1_askSign_63 : decode cX1_askSign 63 = .ok (.aload_n 0, 1) := by decide +kernel
theorem dX1_askSign_64 : decode cX1_askSign 64 = .ok (.iload_n 1, 1) := by decide +kernel
theorem dX1_askSign_65 : decode cX1_askSign 65 = .ok (.ifCond .eq 7, 3) := by decide +kernel
theorem dX1_askSign_68 : decode cX1_askSign 68 = .ok (.iconst 1, 1) := by decide +kernel
theorem dX1_askSign_69 : decode cX1_askSign 69 = .ok (.goto 4, 3) := by decide +kernel
theorem dX1_askSign_72 : decode cX1_askSign 72 = .ok (.iconst 2, 1) := by decide +kernel
theorem dX1_askSign_73 : decode cX1_askSign 73 = .ok (.putfield 71, 3) := by decide +kernel
theorem dX1_askSign_76 : decode cX1_askSign 76 = .ok (.return_, 1) := by decide +kernel
theorem dX1_begin_0 : decode cX1_begin 0 = .ok (.aload_n 0, 1) := by decide +kernel
theorem dX1_begin_1 : decode cX1_begin 1 = .ok (.aload_n 1, 1) := by decide +kernel
theorem dX1_begin_2 : decode cX1_begin 2 = .ok (.putfield 14, 3) := by decide +kernel
theorem dX1_begin_5 : decode cX1_begin 5 = .ok (.aload_n 0, 1) := by decide +kernel
theorem dX1_begin_6 : decode cX1_begin 6 = .ok (.aload_n 2, 1) := by decide +kernel
theorem dX1_begin_7 : decode cX1_begin 7 = .ok (.putfield 25, 3) := by decide +kernel
theorem dX1_begin_10 : decode cX1_begin 10 = .ok (.aload_n 0, 1) := by decide +kernel
theorem dX1_begin_11 : decode cX1_begin 11 = .ok (.iload 4, 2) := by decide +kernel
theorem dX1_begin_13 : decode cX1_begin 13 = .ok (.putfield 51, 3) := by decide +kernel
theorem dX1_begin_16 : decode cX1_begin 16 = .ok (.aload_n 0, 1) := by decide +kernel
theorem dX1_begin_17 : decode cX1_begin 17 = .ok (.iconst 0, 1) := by decide +kernel
theorem dX1_begin_18 : decode cX1_begin 18 = .ok (.putfield 55, 3) := by decide +kernel
theorem dX1_begin_21 : decode cX1_begin 21 = .ok (.aload_n 0, 1) := by decide +kernel
theorem dX1_begin_22 : decode cX1_begin 22 = .ok (.iload_n 3, 1) := by decide +kernel
theorem dX1_begin_23 : decode cX1_begin 23 = .ok (.invokevirtual 59, 3) := by decide +kernel
theorem dX1_begin_26 : decode cX1_begin 26 = .ok (.return_, 1) := by decide +kernel
theorem dX1_captureBegin_0 : decode cX1_captureBegin 0 = .ok (.aload_n 0, 1) := by decide +kernel
theorem dX1_captureBegin_1 : decode cX1_captureBegin 1 = .ok (.sipush 256, 3) := by decide +kernel
theorem dX1_captureBegin_4 : decode cX1_captureBegin 4 = .ok (.iload_n 1, 1) := by decide +kernel
theorem dX1_captureBegin_5 : decode cX1_captureBegin 5 = .ok (.iadd, 1) := by decide +kernel
theorem dX1_captureBegin_6 : decode cX1_captureBegin 6 = .ok (.invokevirtual 204, 3) := by decide +kernel
theorem dX1_captureBegin_9 : decode cX1_captureBegin 9 = .ok (.istore_n 2, 1) := by decide +kernel
theorem dX1_captureBegin_10 : decode cX1_captureBegin 10 = .ok (.iload_n 2, 1) := by decide +kernel
theorem dX1_captureBegin_11 : decode cX1_captureBegin 11 = .ok (.ifCond .ne 7, 3) := by decide +kernel
theorem dX1_captureBegin_14 : decode cX1_captureBegin 14 = .ok (.iconst (-1), 1) := by decide +kernel
theorem dX1_captureBegin_15 : decode cX1_captureBegin 15 = .ok (.goto 10, 3) := by decide +kernel
theorem dX1_captureBegin_18 : decode cX1_captureBegin 18 = .ok (.iload_n 2, 1) := by decide +kernel
theorem dX1_captureBegin_19 : decode cX1_captureBegin 19 = .ok (.iconst 1, 1) := by decide +kernel
theorem dX1_captureBegin_20 : decode cX1_captureBegin 20 = .ok (.isub, 1) := by decide +kernel
theorem dX1_captureBegin_21 : decode cX1_captureBegin 21 = .ok (.sipush 128, 3) := by decide +kernel
theorem dX1_captureBegin_24 : decode cX1_captureBegin 24 = .ok (.idiv, 1) := by decide +kernel
theorem dX1_captureBegin_25 : decode cX1_captureBegin 25 = .ok (.ireturn, 1) := by decide +kernel
theorem dX1_captureEnd_0 : decode cX1_captureEnd 0 = .ok (.aload_n 0, 1) := by decide +kernel
theorem dX1_captureEnd_1 : decode cX1_captureEnd 1 = .ok (.sipush 256, 3) := by decide +kernel
theorem dX1_captureEnd_4 : decode cX1_captureEnd 4 = .ok (.iload_n 1, 1) := by decide +kernel
theorem dX1_captureEnd_5 : decode cX1_captureEnd 5 = .ok (.iadd, 1) := by decide +kernel
theorem dX1_captureEnd_6 : decode cX1_captureEnd 6 = .ok (.invokevirtual 204, 3) := by decide +kernel
theorem dX1_captureEnd_9 : decode cX1_captureEnd 9 = .ok (.istore_n 2, 1) := by decide +kernel
theorem dX1_captureEnd_10 : decode cX1_captureEnd 10 = .ok (.iload_n 2, 1) := by decide +kernel
theorem dX1_captureEnd_11 : decode cX1_captureEnd 11 = .ok (.ifCond .ne 7, 3) := by decide +kernel
theorem dX1_captureEnd_14 : decode cX1_captureEnd 14 = .ok (.iconst (-1), 1) := by decide +kernel
theorem dX1_captureEnd_15 : decode cX1_captureEnd 15 = .ok (.goto 10, 3) := by decide +kernel
theorem dX1_captureEnd_18 : decode cX1_captureEnd 18 = .ok (.iload_n 2, 1) := by decide +kernel
theorem dX1_captureEnd_19 : decode cX1_captureEnd 19 = .ok (.iconst 1, 1) := by decide +kernel
theorem dX1_captureEnd_20 : decode cX1_captureEnd 20 = .ok (.isub, 1) := by decide +kernel
theorem dX1_captureEnd_21 : decode cX1_captureEnd 21 = .ok (.sipush 128, 3) := by decide +kernel
theorem dX1_captureEnd_24 : decode cX1_captureEnd 24 = .ok (.irem, 1) := by decide +kernel
theorem dX1_captureEnd_25 : decode cX1_captureEnd 25 = .ok (.ireturn, 1) := by decide +kernel
theorem dX1_cell_0 : decode cX1_cell 0 = .ok (.iload_n 1, 1) := by decide +kernel
theorem dX1_cell_1 : decode cX1_cell 1 = .ok (.ifCond .lt 21, 3) := by decide +kernel
theorem dX1_cell_4 : decode cX1_cell 4 = .ok (.iload_n 1, 1) := by decide +kernel
theorem dX1_cell_5 : decode cX1_cell 5 = .ok (.aload_n 0, 1) := by decide +kernel
theorem dX1_cell_6 : decode cX1_cell 6 = .ok (.getfield 29, 3) := by decide +kernel
theorem dX1_cell_9 : decode cX1_cell 9 = .ok (.arraylength, 1) := by decide +kernel
theorem dX1_cell_10 : decode cX1_cell 10 = .ok (.if_icmp .ge 12, 3) := by decide +kernel
theorem dX1_cell_13 : decode cX1_cell 13 = .ok (.aload_n 0, 1) := by decide +kernel
theorem dX1_cell_14 : decode cX1_cell 14 = .ok (.getfield 29, 3) := by decide +kernel
theorem dX1_cell_17 : decode cX1_cell 17 = .ok (.iload_n 1, 1) := by decide +kernel
theorem dX1_cell_18 : decode cX1_cell 18 = .ok (.iaload, 1) := by decide +kernel
theorem dX1_cell_19 : decode cX1_cell 19 = .ok (.goto 4, 3) := by decide +kernel
theorem dX1_cell_22 : decode cX1_cell 22 = .ok (.iconst 0, 1) := by decide +kernel
theorem dX1_cell_23 : decode cX1_cell 23 = .ok (.ireturn, 1) := by decide +kernel
theorem dX1_cutToBase_0 : decode cX1_cutToBase 0 = .ok (.aload_n 0, 1) := by decide +kernel
theorem dX1_cutToBase_1 : decode cX1_cutToBase 1 = .ok (.getfield 68, 3) := by decide +kernel
theorem dX1_cutToBase_4 : decode cX1_cutToBase 4 = .ok (.ifCond .lt 33, 3) := by decide +kernel
theorem dX1_cutToBase_7 : decode cX1_cutToBase 7 = .ok (.aload_n 0, 1) := by decide +kernel
theorem dX1_cutToBase_8 : decode cX1_cutToBase 8 = .ok (.getfield 68, 3) := by decide +kernel
theorem dX1_cutToBase_11 : decode cX1_cutToBase 11 = .ok (.sipush 256, 3) := by decide +kernel
theorem dX1_cutToBase_14 : decode cX1_cutToBase 14 = .ok (.if_icmp .ge 23, 3) := by decide +kernel
theorem dX1_cutToBase_17 : decode cX1_cutToBase 17 = .ok (.aload_n 0, 1) := by decide +kernel
theorem dX1_cutToBase_18 : decode cX1_cutToBase 18 = .ok (.aload_n 0, 1) := by decide +kernel
theorem dX1_cutToBase_19 : decode cX1_cutToBase 19 = .ok (.getfield 74, 3) := by decide +kernel
theorem dX1_cutToBase_22 : decode cX1_cutToBase 22 = .ok (.aload_n 0, 1) := by decide +kernel
theorem dX1_cutToBase_23 : decode cX1_cutToBase 23 = .ok (.getfield 33, 3) := by decide +kernel
theorem dX1_cutToBase_26 : decode cX1_cutToBase 26 = .ok (.aload_n 0, 1) := by decide +kernel
theorem dX1_cutToBase_27 : decode cX1_cutToBase 27 = .ok (.getfield 68, 3) := by decide +kernel
theorem dX1_cutToBase_30 : decode cX1_cutToBase 30 = .ok (.iaload, 1) := by decide +kernel
theorem dX1_cutToBase_31 : decode cX1_cutToBase 31 = .ok (.invokestatic 86, 3) := by decide +kernel
theorem dX1_cutToBase_34 : decode cX1_cutToBase 34 = .ok (.putfield 74, 3) := by decide +kernel
theorem dX1_cutToBase_37 : decode cX1_cutToBase 37 = .ok (.return_, 1) := by decide +kernel
theorem dX1_endLoop_0 : decode cX1_endLoop 0 = .ok (.aload_n 0, 1) := by decide +kernel
theorem dX1_endLoop_1 : decode cX1_endLoop 1 = .ok (.getfield 14, 3) := by decide +kernel
theorem dX1_endLoop_4 : decode cX1_endLoop 4 = .ok (.aload_n 0, 1) := by decide +kernel
theorem dX1_endLoop_5 : decode cX1_endLoop 5 = .ok (.getfield 68, 3) := by decide +kernel
theorem dX1_endLoop_8 : decode cX1_endLoop 8 = .ok (.invokevirtual 181, 3) := by decide +kernel
theorem dX1_endLoop_11 : decode cX1_endLoop 11 = .ok (.iconst 2, 1) := by decide +kernel
theorem dX1_endLoop_12 : decode cX1_endLoop 12 = .ok (.if_icmp .ne 7, 3) := by decide +kernel
theorem dX1_endLoop_15 : decode cX1_endLoop 15 = .ok (.aload_n 0, 1) := by decide +kernel
theorem dX1_endLoop_16 : decode cX1_endLoop 16 = .ok (.invokevirtual 216, 3) := by decide +kernel
theorem dX1_endLoop_19 : decode cX1_endLoop 19 = .ok (.aload_n 0, 1) := by decide +kernel
theorem dX1_endLoop_20 : decode cX1_endLoop 20 = .ok (.iconst 1, 1) := by decide +kernel
theorem dX1_endLoop_21 : decode cX1_endLoop 21 = .ok (.putfield 71, 3) := by decide +kernel
theorem dX1_endLoop_24 : decode cX1_endLoop 24 = .ok (.return_, 1) := by decide +kernel
theorem dX1_endTurn_0 : decode cX1_endTurn 0 = .ok (.aload_n 0, 1) := by decide +kernel
theorem dX1_endTurn_1 : decode cX1_endTurn 1 = .ok (.aload_n 0, 1) := by decide +kernel
theorem dX1_endTurn_2 : decode cX1_endTurn 2 = .ok (.getfield 68, 3) := by decide +kernel
theorem dX1_endTurn_5 : decode cX1_endTurn 5 = .ok (.invokevirtual 204, 3) := by decide +kernel
theorem dX1_endTurn_8 : decode cX1_endTurn 8 = .ok (.sipush 128, 3) := by decide +kernel
theorem dX1_endTurn_11 : decode cX1_endTurn 11 = .ok (.idiv, 1) := by decide +kernel
theorem dX1_endTurn_12 : decode cX1_endTurn 12 = .ok (.istore_n 1, 1) := by decide +kernel
theorem dX1_endTurn_13 : decode cX1_endTurn 13 = .ok (.aload_n 0, 1) := by decide +kernel
theorem dX1_endTurn_14 : decode cX1_endTurn 14 = .ok (.aload_n 0, 1) := by decide +kernel
theorem dX1_endTurn_15 : decode cX1_endTurn 15 = .ok (.getfield 68, 3) := by decide +kernel
theorem dX1_endTurn_18 : decode cX1_endTurn 18 = .ok (.invokevirtual 204, 3) := by decide +kernel
theorem dX1_endTurn_21 : decode cX1_endTurn 21 = .ok (.sipush 128, 3) := by decide +kernel
theorem dX1_endTurn_24 : decode cX1_endTurn 24 = .ok (.irem, 1) := by decide +kernel
theorem dX1_endTurn_25 : decode cX1_endTurn 25 = .ok (.istore_n 2, 1) := by decide +kernel
theorem dX1_endTurn_26 : decode cX1_endTurn 26 = .ok (.aload_n 0, 1) := by decide +kernel
theorem dX1_endTurn_27 : decode cX1_endTurn 27 = .ok (.iload_n 1, 1) := by decide +kernel
theorem dX1_endTurn_28 : decode cX1_endTurn 28 = .ok (.aload_n 0, 1) := by decide +kernel
theorem dX1_endTurn_29 : decode cX1_endTurn 29 = .ok (.getfield 14, 3) := by decide +kernel
theorem dX1_endTurn_32 : decode cX1_endTurn 32 = .ok (.aload_n 0, 1) := by decide +kernel
theorem dX1_endTurn_33 : decode cX1_endTurn 33 = .ok (.getfield 68, 3) := by decide +kernel
theorem dX1_endTurn_36 : decode cX1_endTurn 36 = .ok (.invokevirtual 210, 3) := by decide +kernel
theorem dX1_endTurn_39 : decode cX1_endTurn 39 = .ok (.if_icmp .le 15, 3) := by decide +kernel
theorem dX1_endTurn_42 : decode cX1_endTurn 42 = .ok (.aload_n 0, 1) := by decide +kernel
theorem dX1_endTurn_43 : decode cX1_endTurn 43 = .ok (.getfield 65, 3) := by decide +kernel
theorem dX1_endTurn_46 : decode cX1_endTurn 46 = .ok (.iload_n 2, 1) := by decide +kernel
theorem dX1_endTurn_47 : decode cX1_endTurn 47 = .ok (.if_icmp .ne 7, 3) := by decide +kernel
theorem dX1_endTurn_50 : decode cX1_endTurn 50 = .ok (.iconst 2, 1) := by decide +kernel
theorem dX1_endTurn_51 : decode cX1_endTurn 51 = .ok (.goto 4, 3) := by decide +kernel
theorem dX1_endTurn_54 : decode cX1_endTurn 54 = .ok (.iconst 3, 1) := by decide +kernel
theorem dX1_endTurn_55 : decode cX1_endTurn 55 = .ok (.putfield 71, 3) := by decide +kernel
theorem dX1_endTurn_58 : decode cX1_endTurn 58 = .ok (.return_, 1) := by decide +kernel
theorem dX1_enterPart_0 : decode cX1_enterPart 0 = .ok (.aload_n 0, 1) := by decide +kernel
theorem dX1_enterPart_1 : decode cX1_enterPart 1 = .ok (.getfield 14, 3) := by decide +kernel
theorem dX1_enterPart_4 : decode cX1_enterPart 4 = .ok (.aload_n 0, 1) := by decide +kernel
theorem dX1_enterPart_5 : decode cX1_enterPart 5 = .ok (.getfield 68, 3) := by decide +kernel
theorem dX1_enterPart_8 : decode cX1_enterPart 8 = .ok (.invokevirtual 153, 3) := by decide +kernel
theorem dX1_enterPart_11 : decode cX1_enterPart 11 = .ok (.istore_n 1, 1) := by decide +kernel
theorem dX1_enterPart_12 : decode cX1_enterPart 12 = .ok (.iload_n 1, 1) := by decide +kernel
theorem dX1_enterPart_13 : decode cX1_enterPart 13 = .ok (.iconst (-1), 1) := by decide +kernel
theorem dX1_enterPart_14 : decode cX1_enterPart 14 = .ok (.if_icmp .ne 11, 3) := by decide +kernel
theorem dX1_enterPart_17 : decode cX1_enterPart 17 = .ok (.aload_n 0, 1) := by decide +kernel
theorem dX1_enterPart_18 : decode cX1_enterPart 18 = .ok (.iconst 1, 1) := by decide +kernel
theorem dX1_enterPart_19 : decode cX1_enterPart 19 = .ok (.putfield 71, 3) := by decide +kernel
theorem dX1_enterPart_22 : decode cX1_enterPart 22 = .ok (.goto 13, 3) := by decide +kernel
theorem dX1_enterPart_25 : decode cX1_enterPart 25 = .ok (.aload_n 0, 1) := by decide +kernel
theorem dX1_enterPart_26 : decode cX1_enterPart 26 = .ok (.iload_n 1, 1) := by decide +kernel
theorem dX1_enterPart_27 : decode cX1_enterPart 27 = .ok (.putfield 68, 3) := by decide +kernel
theorem dX1_enterPart_30 : decode cX1_enterPart 30 = .ok (.aload_n 0, 1) := by decide +kernel
theorem dX1_enterPart_31 : decode cX1_enterPart 31 = .ok (.iconst 0, 1) := by decide +kernel
theorem dX1_enterPart_32 : decode cX1_enterPart 32 = .ok (.putfield 71, 3) := by decide +kernel
theorem dX1_enterPart_35 : decode cX1_enterPart 35 = .ok (.return_, 1) := by decide +kernel
theorem dX1_entryOf_0 : decode cX1_entryOf 0 = .ok (.iload_n 1, 1) := by decide +kernel
theorem dX1_entryOf_1 : decode cX1_entryOf 1 = .ok (.ifCond .lt 19, 3) := by decide +kernel
theorem dX1_entryOf_4 : decode cX1_entryOf 4 = .ok (.iload_n 1, 1) := by decide +kernel
theorem dX1_entryOf_5 : decode cX1_entryOf 5 = .ok (.sipush 256, 3) := by decide +kernel
theorem dX1_entryOf_8 : decode cX1_entryOf 8 = .ok (.if_icmp .ge 12, 3) := by decide +kernel
theorem dX1_entryOf_11 : decode cX1_entryOf 11 = .ok (.aload_n 0, 1) := by decide +kernel
theorem dX1_entryOf_12 : decode cX1_entryOf 12 = .ok (.getfield 36, 3) := by decide +kernel
theorem dX1_entryOf_15 : decode cX1_entryOf 15 = .ok (.iload_n 1, 1) := by decide +kernel
theorem dX1_entryOf_16 : decode cX1_entryOf 16 = .ok (.iaload, 1) := by decide +kernel
theorem dX1_entryOf_17 : decode cX1_entryOf 17 = .ok (.goto 4, 3) := by decide +kernel
theorem dX1_entryOf_20 : decode cX1_entryOf 20 = .ok (.iconst 0, 1) := by decide +kernel
theorem dX1_entryOf_21 : decode cX1_entryOf 21 = .ok (.ireturn, 1) := by decide +kernel
theorem dX1_finish_0 : decode cX1_finish 0 = .ok (.aload_n 0, 1) := by decide +kernel
theorem dX1_finish_1 : decode cX1_finish 1 = .ok (.getfield 51, 3) := by decide +kernel
theorem dX1_finish_4 : decode cX1_finish 4 = .ok (.ifCond .eq 25, 3) := by decide +kernel
theorem dX1_finish_7 : decode cX1_finish 7 = .ok (.aload_n 0, 1) := by decide +kernel
theorem dX1_finish_8 : decode cX1_finish 8 = .ok (.getfield 65, 3) := by decide +kernel
theorem dX1_finish_11 : decode cX1_finish 11 = .ok (.aload_n 0, 1) := by decide +kernel
theorem dX1_finish_12 : decode cX1_finish 12 = .ok (.getfield 25, 3) := by decide +kernel
theorem dX1_finish_15 : decode cX1_finish 15 = .ok (.getfield 171, 3) := by decide +kernel
theorem dX1_finish_18 : decode cX1_finish 18 = .ok (.if_icmp .eq 11, 3) := by decide +kernel
theorem dX1_finish_21 : decode cX1_finish 21 = .ok (.aload_n 0, 1) := by decide +kernel
theorem dX1_finish_22 : decode cX1_finish 22 = .ok (.iconst 2, 1) := by decide +kernel
theorem dX1_finish_23 : decode cX1_finish 23 = .ok (.putfield 71, 3) := by decide +kernel
theorem dX1_finish_26 : decode cX1_finish 26 = .ok (.goto 8, 3) := by decide +kernel
theorem dX1_finish_29 : decode cX1_finish 29 = .ok (.aload_n 0, 1) := by decide +kernel
theorem dX1_finish_30 : decode cX1_finish 30 = .ok (.iconst 1, 1) := by decide +kernel
theorem dX1_finish_31 : decode cX1_finish 31 = .ok (.putfield 95, 3) := by decide +kernel
theorem dX1_finish_34 : decode cX1_finish 34 = .ok (.return_, 1) := by decide +kernel
theorem dX1_leaveLook_0 : decode cX1_leaveLook 0 = .ok (.aload_n 0, 1) := by decide +kernel
theorem dX1_leaveLook_1 : decode cX1_leaveLook 1 = .ok (.getfield 14, 3) := by decide +kernel
theorem dX1_leaveLook_4 : decode cX1_leaveLook 4 = .ok (.aload_n 0, 1) := by decide +kernel
theorem dX1_leaveLook_5 : decode cX1_leaveLook 5 = .ok (.getfield 68, 3) := by decide +kernel
theorem dX1_leaveLook_8 : decode cX1_leaveLook 8 = .ok (.invokevirtual 181, 3) := by decide +kernel
theorem dX1_leaveLook_11 : decode cX1_leaveLook 11 = .ok (.istore_n 1, 1) := by decide +kernel
theorem dX1_leaveLook_12 : decode cX1_leaveLook 12 = .ok (.aload_n 0, 1) := by decide +kernel
theorem dX1_leaveLook_13 : decode cX1_leaveLook 13 = .ok (.invokevirtual 219, 3) := by decide +kernel
theorem dX1_leaveLook_16 : decode cX1_leaveLook 16 = .ok (.ifCond .eq 24, 3) := by decide +kernel
theorem dX1_leaveLook_19 : decode cX1_leaveLook 19 = .ok (.aload_n 0, 1) := by decide +kernel
theorem dX1_leaveLook_20 : decode cX1_leaveLook 20 = .ok (.getfield 65, 3) := by decide +kernel
theorem dX1_leaveLook_23 : decode cX1_leaveLook 23 = .ok (.aload_n 0, 1) := by decide +kernel
theorem dX1_leaveLook_24 : decode cX1_leaveLook 24 = .ok (.aload_n 0, 1) := by decide +kernel
theorem dX1_leaveLook_25 : decode cX1_leaveLook 25 = .ok (.getfield 68, 3) := by decide +kernel
theorem dX1_leaveLook_28 : decode cX1_leaveLook 28 = .ok (.invokevirtual 222, 3) := by decide +kernel
theorem dX1_leaveLook_31 : decode cX1_leaveLook 31 = .ok (.if_icmp .eq 9, 3) := by decide +kernel
theorem dX1_leaveLook_34 : decode cX1_leaveLook 34 = .ok (.aload_n 0, 1) := by decide +kernel
theorem dX1_leaveLook_35 : decode cX1_leaveLook 35 = .ok (.iconst 2, 1) := by decide +kernel
theorem dX1_leaveLook_36 : decode cX1_leaveLook 36 = .ok (.putfield 71, 3) := by decide +kernel
theorem dX1_leaveLook_39 : decode cX1_leaveLook 39 = .ok (.return_, 1) := by decide +kernel
theorem dX1_leaveLook_40 : decode cX1_leaveLook 40 = .ok (.aload_n 0, 1) := by decide +kernel
theorem dX1_leaveLook_41 : decode cX1_leaveLook 41 = .ok (.invokevirtual 216, 3) := by decide +kernel
theorem dX1_leaveLook_44 : decode cX1_leaveLook 44 = .ok (.aload_n 0, 1) := by decide +kernel
theorem dX1_leaveLook_45 : decode cX1_leaveLook 45 = .ok (.aload_n 0, 1) := by decide +kernel
theorem dX1_leaveLook_46 : decode cX1_leaveLook 46 = .ok (.aload_n 0, 1) := by decide +kernel
theorem dX1_leaveLook_47 : decode cX1_leaveLook 47 = .ok (.getfield 68, 3) := by decide +kernel
theorem dX1_leaveLook_50 : decode cX1_leaveLook 50 = .ok (.invokevirtual 222, 3) := by decide +kernel
theorem dX1_leaveLook_53 : decode cX1_leaveLook 53 = .ok (.putfield 65, 3) := by decide +kernel
theorem dX1_leaveLook_56 : decode cX1_leaveLook 56 = .ok (.aload_n 0, 1) := by decide +kernel
theorem dX1_leaveLook_57 : decode cX1_leaveLook 57 = .ok (.iload_n 1, 1) := by decide +kernel
theorem dX1_leaveLook_58 : decode cX1_leaveLook 58 = .ok (.ifCond .eq 8, 3) := by decide +kernel
theorem dX1_leaveLook_61 : decode cX1_leaveLook 61 = .ok (.iload_n 1, 1) := by decide +kernel
theorem dX1_leaveLook_62 : decode cX1_leaveLook 62 = .ok (.iconst 2, 1) := by decide +kernel
theorem dX1_leaveLook_63 : decode cX1_leaveLook 63 = .ok (.if_icmp .ne 7, 3) := by decide +kernel
theorem dX1_leaveLook_66 : decode cX1_leaveLook 66 = .ok (.iconst 1, 1) := by decide +kernel
theorem dX1_leaveLook_67 : decode cX1_leaveLook 67 = .ok (.goto 4, 3) := by decide +kernel
theorem dX1_leaveLook_70 : decode cX1_leaveLook 70 = .ok (.iconst 2, 1) := by decide +kernel
theorem dX1_leaveLook_71 : decode cX1_leaveLook 71 = .ok (.putfield 71, 3) := by decide +kernel
theorem dX1_leaveLook_74 : decode cX1_leaveLook 74 = .ok (.return_, 1) := by decide +kernel
theorem dX1_leavePartOfRow_0 : decode cX1_leavePartOfRow 0 = .ok (.aload_n 0, 1) := by decide +kernel
theorem dX1_leavePartOfRow_1 : decode cX1_leavePartOfRow 1 = .ok (.getfield 14, 3) := by decide +kernel
theorem dX1_leavePartOfRow_4 : decode cX1_leavePartOfRow 4 = .ok (.iload_n 1, 1) := by decide +kernel
theorem dX1_leavePartOfRow_5 : decode cX1_leavePartOfRow 5 = .ok (.invokevirtual 195, 3) := by decide +kernel
theorem dX1_leavePartOfRow_8 : decode cX1_leavePartOfRow 8 = .ok (.istore_n 2, 1) := by decide +kernel
theorem dX1_leavePartOfRow_9 : decode cX1_leavePartOfRow 9 = .ok (.iload_n 2, 1) := by decide +kernel
theorem dX1_leavePartOfRow_10 : decode cX1_leavePartOfRow 10 = .ok (.iconst (-1), 1) := by decide +kernel
theorem dX1_leavePartOfRow_11 : decode cX1_leavePartOfRow 11 = .ok (.if_icmp .eq 13, 3) := by decide +kernel
theorem dX1_leavePartOfRow_14 : decode cX1_leavePartOfRow 14 = .ok (.aload_n 0, 1) := by decide +kernel
theorem dX1_leavePartOfRow_15 : decode cX1_leavePartOfRow 15 = .ok (.iload_n 2, 1) := by decide +kernel
theorem dX1_leavePartOfRow_16 : decode cX1_leavePartOfRow 16 = .ok (.putfield 68, 3) := by decide +kernel
theorem dX1_leavePartOfRow_19 : decode cX1_leavePartOfRow 19 = .ok (.aload_n 0, 1) := by decide +kernel
theorem dX1_leavePartOfRow_20 : decode cX1_leavePartOfRow 20 = .ok (.iconst 0, 1) := by decide +kernel
theorem dX1_leavePartOfRow_21 : decode cX1_leavePartOfRow 21 = .ok (.putfield 71, 3) := by decide +kernel
theorem dX1_leavePartOfRow_24 : decode cX1_leavePartOfRow 24 = .ok (.return_, 1) := by decide +kernel
theorem dX1_lookAgain_0 : decode cX1_lookAgain 0 = .ok (.aload_n 0, 1) := by decide +kernel
theorem dX1_lookAgain_1 : decode cX1_lookAgain 1 = .ok (.invokevirtual 219, 3) := by decide +kernel
theorem dX1_lookAgain_4 : decode cX1_lookAgain 4 = .ok (.ifCond .eq 53, 3) := by decide +kernel
theorem dX1_lookAgain_7 : decode cX1_lookAgain 7 = .ok (.aload_n 0, 1) := by decide +kernel
theorem dX1_lookAgain_8 : decode cX1_lookAgain 8 = .ok (.getfield 68, 3) := by decide +kernel
theorem dX1_lookAgain_11 : decode cX1_lookAgain 11 = .ok (.ifCond .lt 46, 3) := by decide +kernel
theorem dX1_lookAgain_14 : decode cX1_lookAgain 14 = .ok (.aload_n 0, 1) := by decide +kernel
theorem dX1_lookAgain_15 : decode cX1_lookAgain 15 = .ok (.getfield 68, 3) := by decide +kernel
theorem dX1_lookAgain_18 : decode cX1_lookAgain 18 = .ok (.sipush 256, 3) := by decide +kernel
theorem dX1_lookAgain_21 : decode cX1_lookAgain 21 = .ok (.if_icmp .ge 36, 3) := by decide +kernel
theorem dX1_lookAgain_24 : decode cX1_lookAgain 24 = .ok (.aload_n 0, 1) := by decide +kernel
theorem dX1_lookAgain_25 : decode cX1_lookAgain 25 = .ok (.getfield 39, 3) := by decide +kernel
theorem dX1_lookAgain_28 : decode cX1_lookAgain 28 = .ok (.aload_n 0, 1) := by decide +kernel
theorem dX1_lookAgain_29 : decode cX1_lookAgain 29 = .ok (.getfield 68, 3) := by decide +kernel
theorem dX1_lookAgain_32 : decode cX1_lookAgain 32 = .ok (.iaload, 1) := by decide +kernel
theorem dX1_lookAgain_33 : decode cX1_lookAgain 33 = .ok (.ifCond .le 24, 3) := by decide +kernel
theorem dX1_lookAgain_36 : decode cX1_lookAgain 36 = .ok (.aload_n 0, 1) := by decide +kernel
theorem dX1_lookAgain_37 : decode cX1_lookAgain 37 = .ok (.getfield 39, 3) := by decide +kernel
theorem dX1_lookAgain_40 : decode cX1_lookAgain 40 = .ok (.aload_n 0, 1) := by decide +kernel
theorem dX1_lookAgain_41 : decode cX1_lookAgain 41 = .ok (.getfield 68, 3) := by decide +kernel
theorem dX1_lookAgain_44 : decode cX1_lookAgain 44 = .ok (.dup2, 1) := by decide +kernel
theorem dX1_lookAgain_45 : decode cX1_lookAgain 45 = .ok (.iaload, 1) := by decide +kernel
theorem dX1_lookAgain_46 : decode cX1_lookAgain 46 = .ok (.iconst 1, 1) := by decide +kernel
theorem dX1_lookAgain_47 : decode cX1_lookAgain 47 = .ok (.isub, 1) := by decide +kernel
theorem dX1_lookAgain_48 : decode cX1_lookAgain 48 = .ok (.iastore, 1) := by decide +kernel
theorem dX1_lookAgain_49 : decode cX1_lookAgain 49 = .ok (.aload_n 0, 1) := by decide +kernel
theorem dX1_lookAgain_50 : decode cX1_lookAgain 50 = .ok (.iconst 5, 1) := by decide +kernel
theorem dX1_lookAgain_51 : decode cX1_lookAgain 51 = .ok (.putfield 71, 3) := by decide +kernel
theorem dX1_lookAgain_54 : decode cX1_lookAgain 54 = .ok (.goto 43, 3) := by decide +kernel
theorem dX1_lookAgain_57 : decode cX1_lookAgain 57 = .ok (.aload_n 0, 1) := by decide +kernel
theorem dX1_lookAgain_58 : decode cX1_lookAgain 58 = .ok (.getfield 14, 3) := by decide +kernel
theorem dX1_lookAgain_61 : decode cX1_lookAgain 61 = .ok (.aload_n 0, 1) := by decide +kernel
theorem dX1_lookAgain_62 : decode cX1_lookAgain 62 = .ok (.getfield 68, 3) := by decide +kernel
theorem dX1_lookAgain_65 : decode cX1_lookAgain 65 = .ok (.invokevirtual 181, 3) := by decide +kernel
theorem dX1_lookAgain_68 : decode cX1_lookAgain 68 = .ok (.iconst 2, 1) := by decide +kernel
theorem dX1_lookAgain_69 : decode cX1_lookAgain 69 = .ok (.if_icmp .ne 11, 3) := by decide +kernel
theorem dX1_lookAgain_72 : decode cX1_lookAgain 72 = .ok (.aload_n 0, 1) := by decide +kernel
theorem dX1_lookAgain_73 : decode cX1_lookAgain 73 = .ok (.iconst 2, 1) := by decide +kernel
theorem dX1_lookAgain_74 : decode cX1_lookAgain 74 = .ok (.putfield 71, 3) := by decide +kernel
theorem dX1_lookAgain_77 : decode cX1_lookAgain 77 = .ok (.goto 20, 3) := by decide +kernel
theorem dX1_lookAgain_80 : decode cX1_lookAgain 80 = .ok (.aload_n 0, 1) := by decide +kernel
theorem dX1_lookAgain_81 : decode cX1_lookAgain 81 = .ok (.aload_n 0, 1) := by decide +kernel
theorem dX1_lookAgain_82 : decode cX1_lookAgain 82 = .ok (.aload_n 0, 1) := by decide +kernel
theorem dX1_lookAgain_83 : decode cX1_lookAgain 83 = .ok (.getfield 68, 3) := by decide +kernel
theorem dX1_lookAgain_86 : decode cX1_lookAgain 86 = .ok (.invokevirtual 222, 3) := by decide +kernel
theorem dX1_lookAgain_89 : decode cX1_lookAgain 89 = .ok (.putfield 65, 3) := by decide +kernel
theorem dX1_lookAgain_92 : decode cX1_lookAgain 92 = .ok (.aload_n 0, 1) := by decide +kernel
theorem dX1_lookAgain_93 : decode cX1_lookAgain 93 = .ok (.iconst 1, 1) := by decide +kernel
theorem dX1_lookAgain_94 : decode cX1_lookAgain 94 = .ok (.putfield 71, 3) := by decide +kernel
theorem dX1_lookAgain_97 : decode cX1_lookAgain 97 = .ok (.return_, 1) := by decide +kernel
theorem dX1_looksBehind_0 : decode cX1_looksBehind 0 = .ok (.aload_n 0, 1) := by decide +kernel
theorem dX1_looksBehind_1 : decode cX1_looksBehind 1 = .ok (.getfield 14, 3) := by decide +kernel
theorem dX1_looksBehind_4 : decode cX1_looksBehind 4 = .ok (.aload_n 0, 1) := by decide +kernel
theorem dX1_looksBehind_5 : decode cX1_looksBehind 5 = .ok (.getfield 68, 3) := by decide +kernel
theorem dX1_looksBehind_8 : decode cX1_looksBehind 8 = .ok (.invokevirtual 137, 3) := by decide +kernel
theorem dX1_looksBehind_11 : decode cX1_looksBehind 11 = .ok (.bipush 9, 2) := by decide +kernel
theorem dX1_looksBehind_13 : decode cX1_looksBehind 13 = .ok (.if_icmp .ne 22, 3) := by decide +kernel
theorem dX1_looksBehind_16 : decode cX1_looksBehind 16 = .ok (.aload_n 0, 1) := by decide +kernel
theorem dX1_looksBehind_17 : decode cX1_looksBehind 17 = .ok (.getfield 14, 3) := by decide +kernel
theorem dX1_looksBehind_20 : decode cX1_looksBehind 20 = .ok (.aload_n 0, 1) := by decide +kernel
theorem dX1_looksBehind_21 : decode cX1_looksBehind 21 = .ok (.getfield 68, 3) := by decide +kernel
theorem dX1_looksBehind_24 : decode cX1_looksBehind 24 = .ok (.invokevirtual 181, 3) := by decide +kernel
theorem dX1_looksBehind_27 : decode cX1_looksBehind 27 = .ok (.iconst 2, 1) := by decide +kernel
theorem dX1_looksBehind_28 : decode cX1_looksBehind 28 = .ok (.if_icmp .lt 7, 3) := by decide +kernel
theorem dX1_looksBehind_31 : decode cX1_looksBehind 31 = .ok (.iconst 1, 1) := by decide +kernel
theorem dX1_looksBehind_32 : decode cX1_looksBehind 32 = .ok (.goto 4, 3) := by decide +kernel
theorem dX1_looksBehind_35 : decode cX1_looksBehind 35 = .ok (.iconst 0, 1) := by decide +kernel
theorem dX1_looksBehind_36 : decode cX1_looksBehind 36 = .ok (.ireturn, 1) := by decide +kernel
theorem dX1_markBase_0 : decode cX1_markBase 0 = .ok (.aload_n 0, 1) := by decide +kernel
theorem dX1_markBase_1 : decode cX1_markBase 1 = .ok (.getfield 68, 3) := by decide +kernel
theorem dX1_markBase_4 : decode cX1_markBase 4 = .ok (.ifCond .lt 52, 3) := by decide +kernel
theorem dX1_markBase_7 : decode cX1_markBase 7 = .ok (.aload_n 0, 1) := by decide +kernel
theorem dX1_markBase_8 : decode cX1_markBase 8 = .ok (.getfield 68, 3) := by decide +kernel
theorem dX1_markBase_11 : decode cX1_markBase 11 = .ok (.sipush 256, 3) := by decide +kernel
theorem dX1_markBase_14 : decode cX1_markBase 14 = .ok (.if_icmp .ge 42, 3) := by decide +kernel
theorem dX1_markBase_17 : decode cX1_markBase 17 = .ok (.aload_n 0, 1) := by decide +kernel
theorem dX1_markBase_18 : decode cX1_markBase 18 = .ok (.getfield 33, 3) := by decide +kernel
theorem dX1_markBase_21 : decode cX1_markBase 21 = .ok (.aload_n 0, 1) := by decide +kernel
theorem dX1_markBase_22 : decode cX1_markBase 22 = .ok (.getfield 68, 3) := by decide +kernel
theorem dX1_markBase_25 : decode cX1_markBase 25 = .ok (.aload_n 0, 1) := by decide +kernel
theorem dX1_markBase_26 : decode cX1_markBase 26 = .ok (.getfield 74, 3) := by decide +kernel
theorem dX1_markBase_29 : decode cX1_markBase 29 = .ok (.iastore, 1) := by decide +kernel
theorem dX1_markBase_30 : decode cX1_markBase 30 = .ok (.aload_n 0, 1) := by decide +kernel
theorem dX1_markBase_31 : decode cX1_markBase 31 = .ok (.getfield 36, 3) := by decide +kernel
theorem dX1_markBase_34 : decode cX1_markBase 34 = .ok (.aload_n 0, 1) := by decide +kernel
theorem dX1_markBase_35 : decode cX1_markBase 35 = .ok (.getfield 68, 3) := by decide +kernel
theorem dX1_markBase_38 : decode cX1_markBase 38 = .ok (.aload_n 0, 1) := by decide +kernel
theorem dX1_markBase_39 : decode cX1_markBase 39 = .ok (.getfield 65, 3) := by decide +kernel
theorem dX1_markBase_42 : decode cX1_markBase 42 = .ok (.iastore, 1) := by decide +kernel
theorem dX1_markBase_43 : decode cX1_markBase 43 = .ok (.aload_n 0, 1) := by decide +kernel
theorem dX1_markBase_44 : decode cX1_markBase 44 = .ok (.getfield 39, 3) := by decide +kernel
theorem dX1_markBase_47 : decode cX1_markBase 47 = .ok (.aload_n 0, 1) := by decide +kernel
theorem dX1_markBase_48 : decode cX1_markBase 48 = .ok (.getfield 68, 3) := by decide +kernel
theorem dX1_markBase_51 : decode cX1_markBase 51 = .ok (.aload_n 0, 1) := by decide +kernel
theorem dX1_markBase_52 : decode cX1_markBase 52 = .ok (.getfield 65, 3) := by decide +kernel
theorem dX1_markBase_55 : decode cX1_markBase 55 = .ok (.iastore, 1) := by decide +kernel
theorem dX1_markBase_56 : decode cX1_markBase 56 = .ok (.return_, 1) := by decide +kernel
theorem dX1_startAt_0 : decode cX1_startAt 0 = .ok (.aload_n 0, 1) := by decide +kernel
theorem dX1_startAt_1 : decode cX1_startAt 1 = .ok (.iload_n 1, 1) := by decide +kernel
theorem dX1_startAt_2 : decode cX1_startAt 2 = .ok (.putfield 62, 3) := by decide +kernel
theorem dX1_startAt_5 : decode cX1_startAt 5 = .ok (.aload_n 0, 1) := by decide +kernel
theorem dX1_startAt_6 : decode cX1_startAt 6 = .ok (.iload_n 1, 1) := by decide +kernel
theorem dX1_startAt_7 : decode cX1_startAt 7 = .ok (.putfield 65, 3) := by decide +kernel
theorem dX1_startAt_10 : decode cX1_startAt 10 = .ok (.aload_n 0, 1) := by decide +kernel
theorem dX1_startAt_11 : decode cX1_startAt 11 = .ok (.iconst 0, 1) := by decide +kernel
theorem dX1_startAt_12 : decode cX1_startAt 12 = .ok (.putfield 68, 3) := by decide +kernel
theorem dX1_startAt_15 : decode cX1_startAt 15 = .ok (.aload_n 0, 1) := by decide +kernel
theorem dX1_startAt_16 : decode cX1_startAt 16 = .ok (.iconst 0, 1) := by decide +kernel
theorem dX1_startAt_17 : decode cX1_startAt 17 = .ok (.putfield 71, 3) := by decide +kernel
theorem dX1_startAt_20 : decode cX1_startAt 20 = .ok (.aload_n 0, 1) := by decide +kernel
theorem dX1_startAt_21 : decode cX1_startAt 21 = .ok (.iconst 0, 1) := by decide +kernel
theorem dX1_startAt_22 : decode cX1_startAt 22 = .ok (.putfield 74, 3) := by decide +kernel
theorem dX1_startAt_25 : decode cX1_startAt 25 = .ok (.aload_n 0, 1) := by decide +kernel
theorem dX1_startAt_26 : decode cX1_startAt 26 = .ok (.iconst 0, 1) := by decide +kernel
theorem dX1_startAt_27 : decode cX1_startAt 27 = .ok (.putfield 77, 3) := by decide +kernel
theorem dX1_startAt_30 : decode cX1_startAt 30 = .ok (.aload_n 0, 1) := by decide +kernel
theorem dX1_startAt_31 : decode cX1_startAt 31 = .ok (.getfield 29, 3) := by decide +kernel
theorem dX1_startAt_34 : decode cX1_startAt 34 = .ok (.iconst 0, 1) := by decide +kernel
theorem dX1_startAt_35 : decode cX1_startAt 35 = .ok (.invokestatic 80, 3) := by decide +kernel
theorem dX1_startAt_38 : decode cX1_startAt 38 = .ok (.return_, 1) := by decide +kernel
theorem dX1_startFurther_0 : decode cX1_startFurther 0 = .ok (.aload_n 0, 1) := by decide +kernel
theorem dX1_startFurther_1 : decode cX1_startFurther 1 = .ok (.getfield 51, 3) := by decide +kernel
theorem dX1_startFurther_4 : decode cX1_startFurther 4 = .ok (.ifCond .ne 17, 3) := by decide +kernel
theorem dX1_startFurther_7 : decode cX1_startFurther 7 = .ok (.aload_n 0, 1) := by decide +kernel
theorem dX1_startFurther_8 : decode cX1_startFurther 8 = .ok (.getfield 62, 3) := by decide +kernel
theorem dX1_startFurther_11 : decode cX1_startFurther 11 = .ok (.aload_n 0, 1) := by decide +kernel
theorem dX1_startFurther_12 : decode cX1_startFurther 12 = .ok (.getfield 25, 3) := by decide +kernel
theorem dX1_startFurther_15 : decode cX1_startFurther 15 = .ok (.getfield 171, 3) := by decide +kernel
theorem dX1_startFurther_18 : decode cX1_startFurther 18 = .ok (.if_icmp .lt 11, 3) := by decide +kernel
theorem dX1_startFurther_21 : decode cX1_startFurther 21 = .ok (.aload_n 0, 1) := by decide +kernel
theorem dX1_startFurther_22 : decode cX1_startFurther 22 = .ok (.iconst 2, 1) := by decide +kernel
theorem dX1_startFurther_23 : decode cX1_startFurther 23 = .ok (.putfield 95, 3) := by decide +kernel
theorem dX1_startFurther_26 : decode cX1_startFurther 26 = .ok (.goto 13, 3) := by decide +kernel
theorem dX1_startFurther_29 : decode cX1_startFurther 29 = .ok (.aload_n 0, 1) := by decide +kernel
theorem dX1_startFurther_30 : decode cX1_startFurther 30 = .ok (.aload_n 0, 1) := by decide +kernel
theorem dX1_startFurther_31 : decode cX1_startFurther 31 = .ok (.getfield 62, 3) := by decide +kernel
theorem dX1_startFurther_34 : decode cX1_startFurther 34 = .ok (.iconst 1, 1) := by decide +kernel
theorem dX1_startFurther_35 : decode cX1_startFurther 35 = .ok (.iadd, 1) := by decide +kernel
theorem dX1_startFurther_36 : decode cX1_startFurther 36 = .ok (.invokevirtual 59, 3) := by decide +kernel
theorem dX1_startFurther_39 : decode cX1_startFurther 39 = .ok (.return_, 1) := by decide +kernel
theorem dX1_step_0 : decode cX1_step 0 = .ok (.aload_n 0, 1) := by decide +kernel
theorem dX1_step_1 : decode cX1_step 1 = .ok (.getfield 55, 3) := by decide +kernel
theorem dX1_step_4 : decode cX1_step 4 = .ok (.aload_n 0, 1) := by decide +kernel
theorem dX1_step_5 : decode cX1_step 5 = .ok (.getfield 92, 3) := by decide +kernel
theorem dX1_step_8 : decode cX1_step 8 = .ok (.if_icmp .lt 10, 3) := by decide +kernel
theorem dX1_step_11 : decode cX1_step 11 = .ok (.aload_n 0, 1) := by decide +kernel
theorem dX1_step_12 : decode cX1_step 12 = .ok (.iconst 3, 1) := by decide +kernel
theorem dX1_step_13 : decode cX1_step 13 = .ok (.putfield 95, 3) := by decide +kernel
theorem dX1_step_16 : decode cX1_step 16 = .ok (.iconst 0, 1) := by decide +kernel
theorem dX1_step_17 : decode cX1_step 17 = .ok (.ireturn, 1) := by decide +kernel
theorem dX1_step_18 : decode cX1_step 18 = .ok (.aload_n 0, 1) := by decide +kernel
theorem dX1_step_19 : decode cX1_step 19 = .ok (.dup, 1) := by decide +kernel
theorem dX1_step_20 : decode cX1_step 20 = .ok (.getfield 55, 3) := by decide +kernel
theorem dX1_step_23 : decode cX1_step 23 = .ok (.iconst 1, 1) := by decide +kernel
theorem dX1_step_24 : decode cX1_step 24 = .ok (.iadd, 1) := by decide +kernel
theorem dX1_step_25 : decode cX1_step 25 = .ok (.putfield 55, 3) := by decide +kernel
theorem dX1_step_28 : decode cX1_step 28 = .ok (.iconst 1, 1) := by decide +kernel
theorem dX1_step_29 : decode cX1_step 29 = .ok (.ireturn, 1) := by decide +kernel
theorem dX1_tell_0 : decode cX1_tell 0 = .ok (.aload_n 1, 1) := by decide +kernel
theorem dX1_tell_1 : decode cX1_tell 1 = .ok (.invokevirtual 121, 3) := by decide +kernel
theorem dX1_tell_4 : decode cX1_tell 4 = .ok (.aload_n 1, 1) := by decide +kernel
theorem dX1_tell_5 : decode cX1_tell 5 = .ok (.aload_n 0, 1) := by decide +kernel
theorem dX1_tell_6 : decode cX1_tell 6 = .ok (.getfield 62, 3) := by decide +kernel
theorem dX1_tell_9 : decode cX1_tell 9 = .ok (.invokevirtual 124, 3) := by decide +kernel
theorem dX1_tell_12 : decode cX1_tell 12 = .ok (.aload_n 1, 1) := by decide +kernel
theorem dX1_tell_13 : decode cX1_tell 13 = .ok (.aload_n 0, 1) := by decide +kernel
theorem dX1_tell_14 : decode cX1_tell 14 = .ok (.getfield 65, 3) := by decide +kernel
theorem dX1_tell_17 : decode cX1_tell 17 = .ok (.invokevirtual 124, 3) := by decide +kernel
theorem dX1_tell_20 : decode cX1_tell 20 = .ok (.iconst 1, 1) := by decide +kernel
theorem dX1_tell_21 : decode cX1_tell 21 = .ok (.istore_n 2, 1) := by decide +kernel
theorem dX1_tell_22 : decode cX1_tell 22 = .ok (.iload_n 2, 1) := by decide +kernel
theorem dX1_tell_23 : decode cX1_tell 23 = .ok (.aload_n 0, 1) := by decide +kernel
theorem dX1_tell_24 : decode cX1_tell 24 = .ok (.getfield 14, 3) := by decide +kernel
theorem dX1_tell_27 : decode cX1_tell 27 = .ok (.getfield 127, 3) := by decide +kernel
theorem dX1_tell_30 : decode cX1_tell 30 = .ok (.if_icmp .gt 27, 3) := by decide +kernel
theorem dX1_tell_33 : decode cX1_tell 33 = .ok (.aload_n 1, 1) := by decide +kernel
theorem dX1_tell_34 : decode cX1_tell 34 = .ok (.aload_n 0, 1) := by decide +kernel
theorem dX1_tell_35 : decode cX1_tell 35 = .ok (.iload_n 2, 1) := by decide +kernel
theorem dX1_tell_36 : decode cX1_tell 36 = .ok (.invokevirtual 130, 3) := by decide +kernel
theorem dX1_tell_39 : decode cX1_tell 39 = .ok (.invokevirtual 124, 3) := by decide +kernel
theorem dX1_tell_42 : decode cX1_tell 42 = .ok (.aload_n 1, 1) := by decide +kernel
theorem dX1_tell_43 : decode cX1_tell 43 = .ok (.aload_n 0, 1) := by decide +kernel
theorem dX1_tell_44 : decode cX1_tell 44 = .ok (.iload_n 2, 1) := by decide +kernel
theorem dX1_tell_45 : decode cX1_tell 45 = .ok (.invokevirtual 134, 3) := by decide +kernel
theorem dX1_tell_48 : decode cX1_tell 48 = .ok (.invokevirtual 124, 3) := by decide +kernel
theorem dX1_tell_51 : decode cX1_tell 51 = .ok (.iinc 2 1, 3) := by decide +kernel
theorem dX1_tell_54 : decode cX1_tell 54 = .ok (.goto (-32), 3) := by decide +kernel
theorem dX1_tell_57 : decode cX1_tell 57 = .ok (.return_, 1) := by decide +kernel
theorem dX1_undo_0 : decode cX1_undo 0 = .ok (.aload_n 0, 1) := by decide +kernel
theorem dX1_undo_1 : decode cX1_undo 1 = .ok (.getfield 77, 3) := by decide +kernel
theorem dX1_undo_4 : decode cX1_undo 4 = .ok (.iload_n 1, 1) := by decide +kernel
theorem dX1_undo_5 : decode cX1_undo 5 = .ok (.if_icmp .le 79, 3) := by decide +kernel
theorem dX1_undo_8 : decode cX1_undo 8 = .ok (.aload_n 0, 1) := by decide +kernel
theorem dX1_undo_9 : decode cX1_undo 9 = .ok (.getfield 77, 3) := by decide +kernel
theorem dX1_undo_12 : decode cX1_undo 12 = .ok (.ifCond .le 72, 3) := by decide +kernel
theorem dX1_undo_15 : decode cX1_undo 15 = .ok (.aload_n 0, 1) := by decide +kernel
theorem dX1_undo_16 : decode cX1_undo 16 = .ok (.getfield 77, 3) := by decide +kernel
theorem dX1_undo_19 : decode cX1_undo 19 = .ok (.aload_n 0, 1) := by decide +kernel
theorem dX1_undo_20 : decode cX1_undo 20 = .ok (.getfield 48, 3) := by decide +kernel
theorem dX1_undo_23 : decode cX1_undo 23 = .ok (.arraylength, 1) := by decide +kernel
theorem dX1_undo_24 : decode cX1_undo 24 = .ok (.if_icmp .gt 60, 3) := by decide +kernel
theorem dX1_undo_27 : decode cX1_undo 27 = .ok (.aload_n 0, 1) := by decide +kernel
theorem dX1_undo_28 : decode cX1_undo 28 = .ok (.dup, 1) := by decide +kernel
theorem dX1_undo_29 : decode cX1_undo 29 = .ok (.getfield 77, 3) := by decide +kernel
theorem dX1_undo_32 : decode cX1_undo 32 = .ok (.iconst 1, 1) := by decide +kernel
theorem dX1_undo_33 : decode cX1_undo 33 = .ok (.isub, 1) := by decide +kernel
theorem dX1_undo_34 : decode cX1_undo 34 = .ok (.putfield 77, 3) := by decide +kernel
theorem dX1_undo_37 : decode cX1_undo 37 = .ok (.aload_n 0, 1) := by decide +kernel
theorem dX1_undo_38 : decode cX1_undo 38 = .ok (.getfield 48, 3) := by decide +kernel
theorem dX1_undo_41 : decode cX1_undo 41 = .ok (.aload_n 0, 1) := by decide +kernel
theorem dX1_undo_42 : decode cX1_undo 42 = .ok (.getfield 77, 3) := by decide +kernel
theorem dX1_undo_45 : decode cX1_undo 45 = .ok (.iaload, 1) := by decide +kernel
theorem dX1_undo_46 : decode cX1_undo 46 = .ok (.ldc 254, 2) := by decide +kernel
theorem dX1_undo_48 : decode cX1_undo 48 = .ok (.idiv, 1) := by decide +kernel
theorem dX1_undo_49 : decode cX1_undo 49 = .ok (.istore_n 2, 1) := by decide +kernel
theorem dX1_undo_50 : decode cX1_undo 50 = .ok (.iload_n 2, 1) := by decide +kernel
theorem dX1_undo_51 : decode cX1_undo 51 = .ok (.ifCond .lt 30, 3) := by decide +kernel
theorem dX1_undo_54 : decode cX1_undo 54 = .ok (.iload_n 2, 1) := by decide +kernel
theorem dX1_undo_55 : decode cX1_undo 55 = .ok (.aload_n 0, 1) := by decide +kernel
theorem dX1_undo_56 : decode cX1_undo 56 = .ok (.getfield 29, 3) := by decide +kernel
theorem dX1_undo_59 : decode cX1_undo 59 = .ok (.arraylength, 1) := by decide +kernel
theorem dX1_undo_60 : decode cX1_undo 60 = .ok (.if_icmp .ge 21, 3) := by decide +kernel
theorem dX1_undo_63 : decode cX1_undo 63 = .ok (.aload_n 0, 1) := by decide +kernel
theorem dX1_undo_64 : decode cX1_undo 64 = .ok (.getfield 29, 3) := by decide +kernel
theorem dX1_undo_67 : decode cX1_undo 67 = .ok (.iload_n 2, 1) := by decide +kernel
theorem dX1_undo_68 : decode cX1_undo 68 = .ok (.aload_n 0, 1) := by decide +kernel
theorem dX1_undo_69 : decode cX1_undo 69 = .ok (.getfield 48, 3) := by decide +kernel
theorem dX1_undo_72 : decode cX1_undo 72 = .ok (.aload_n 0, 1) := by decide +kernel
theorem dX1_undo_73 : decode cX1_undo 73 = .ok (.getfield 77, 3) := by decide +kernel
theorem dX1_undo_76 : decode cX1_undo 76 = .ok (.iaload, 1) := by decide +kernel
theorem dX1_undo_77 : decode cX1_undo 77 = .ok (.ldc 254, 2) := by decide +kernel
theorem dX1_undo_79 : decode cX1_undo 79 = .ok (.irem, 1) := by decide +kernel
theorem dX1_undo_80 : decode cX1_undo 80 = .ok (.iastore, 1) := by decide +kernel
theorem dX1_undo_81 : decode cX1_undo 81 = .ok (.goto (-81), 3) := by decide +kernel
theorem dX1_undo_84 : decode cX1_undo 84 = .ok (.return_, 1) := by decide +kernel
theorem dX2_begin_0 : decode cX2_begin 0 = .ok (.aload_n 0, 1) := by decide +kernel
theorem dX2_begin_1 : decode cX2_begin 1 = .ok (.iload_n 1, 1) := by decide +kernel
theorem dX2_begin_2 : decode cX2_begin 2 = .ok (.putfield 9, 3) := by decide +kernel
theorem dX2_begin_5 : decode cX2_begin 5 = .ok (.aload_n 0, 1) := by decide +kernel
theorem dX2_begin_6 : decode cX2_begin 6 = .ok (.iload_n 2, 1) := by decide +kernel
theorem dX2_begin_7 : decode cX2_begin 7 = .ok (.putfield 15, 3) := by decide +kernel
theorem dX2_begin_10 : decode cX2_begin 10 = .ok (.aload_n 0, 1) := by decide +kernel
theorem dX2_begin_11 : decode cX2_begin 11 = .ok (.iload_n 3, 1) := by decide +kernel
theorem dX2_begin_12 : decode cX2_begin 12 = .ok (.putfield 18, 3) := by decide +kernel
theorem dX2_begin_15 : decode cX2_begin 15 = .ok (.aload_n 0, 1) := by decide +kernel
theorem dX2_begin_16 : decode cX2_begin 16 = .ok (.iconst (-1), 1) := by decide +kernel
theorem dX2_begin_17 : decode cX2_begin 17 = .ok (.putfield 21, 3) := by decide +kernel
theorem dX2_begin_20 : decode cX2_begin 20 = .ok (.aload_n 0, 1) := by decide +kernel
theorem dX2_begin_21 : decode cX2_begin 21 = .ok (.iconst (-1), 1) := by decide +kernel
theorem dX2_begin_22 : decode cX2_begin 22 = .ok (.putfield 24, 3) := by decide +kernel
theorem dX2_begin_25 : decode cX2_begin 25 = .ok (.aload_n 0, 1) := by decide +kernel
theorem dX2_begin_26 : decode cX2_begin 26 = .ok (.iconst 0, 1) := by decide +kernel
theorem dX2_begin_27 : decode cX2_begin 27 = .ok (.putfield 27, 3) := by decide +kernel
theorem dX2_begin_30 : decode cX2_begin 30 = .ok (.aload_n 0, 1) := by decide +kernel
theorem dX2_begin_31 : decode cX2_begin 31 = .ok (.invokevirtual 30, 3) := by decide +kernel
theorem dX2_begin_34 : decode cX2_begin 34 = .ok (.return_, 1) := by decide +kernel
theorem dX2_beginRow_0 : decode cX2_beginRow 0 = .ok (.aload_n 0, 1) := by decide +kernel
theorem dX2_beginRow_1 : decode cX2_beginRow 1 = .ok (.iconst (-1), 1) := by decide +kernel
theorem dX2_beginRow_2 : decode cX2_beginRow 2 = .ok (.putfield 33, 3) := by decide +kernel
theorem dX2_beginRow_5 : decode cX2_beginRow 5 = .ok (.aload_n 0, 1) := by decide +kernel
theorem dX2_beginRow_6 : decode cX2_beginRow 6 = .ok (.iconst 0, 1) := by decide +kernel
theorem dX2_beginRow_7 : decode cX2_beginRow 7 = .ok (.putfield 36, 3) := by decide +kernel
theorem dX2_beginRow_10 : decode cX2_beginRow 10 = .ok (.aload_n 0, 1) := by decide +kernel
theorem dX2_beginRow_11 : decode cX2_beginRow 11 = .ok (.iconst (-1), 1) := by decide +kernel
theorem dX2_beginRow_12 : decode cX2_beginRow 12 = .ok (.putfield 40, 3) := by decide +kernel
theorem dX2_beginRow_15 : decode cX2_beginRow 15 = .ok (.aload_n 0, 1) := by decide +kernel
theorem dX2_beginRow_16 : decode cX2_beginRow 16 = .ok (.iconst (-1), 1) := by decide +kernel
theorem dX2_beginRow_17 : decode cX2_beginRow 17 = .ok (.putfield 43, 3) := by decide +kernel
theorem dX2_beginRow_20 : decode cX2_beginRow 20 = .ok (.aload_n 0, 1) := by decide +kernel
theorem dX2_beginRow_21 : decode cX2_beginRow 21 = .ok (.iconst 0, 1) := by decide +kernel
theorem dX2_beginRow_22 : decode cX2_beginRow 22 = .ok (.putfield 46, 3) := by decide +kernel
theorem dX2_beginRow_25 : decode cX2_beginRow 25 = .ok (.return_, 1) := by decide +kernel
theorem dX3_cellAt_0 : decode cX3_cellAt 0 = .ok (.iload_n 1, 1) := by decide +kernel
theorem dX3_cellAt_1 : decode cX3_cellAt 1 = .ok (.ifCond .lt 18, 3) := by decide +kernel
theorem dX3_cellAt_4 : decode cX3_cellAt 4 = .ok (.iload_n 1, 1) := by decide +kernel
theorem dX3_cellAt_5 : decode cX3_cellAt 5 = .ok (.bipush 20, 2) := by decide +kernel
theorem dX3_cellAt_7 : decode cX3_cellAt 7 = .ok (.if_icmp .ge 12, 3) := by decide +kernel
theorem dX3_cellAt_10 : decode cX3_cellAt 10 = .ok (.aload_n 0, 1) := by decide +kernel
theorem dX3_cellAt_11 : decode cX3_cellAt 11 = .ok (.getfield 50, 3) := by decide +kernel
theorem dX3_cellAt_14 : decode cX3_cellAt 14 = .ok (.iload_n 1, 1) := by decide +kernel
theorem dX3_cellAt_15 : decode cX3_cellAt 15 = .ok (.iaload, 1) := by decide +kernel
theorem dX3_cellAt_16 : decode cX3_cellAt 16 = .ok (.goto 4, 3) := by decide +kernel
theorem dX3_cellAt_19 : decode cX3_cellAt 19 = .ok (.iconst (-1), 1) := by decide +kernel
theorem dX3_cellAt_20 : decode cX3_cellAt 20 = .ok (.ireturn, 1) := by decide +kernel
theorem dX3_exchangeLists_0 : decode cX3_exchangeLists 0 = .ok (.aload_n 0, 1) := by decide +kernel
theorem dX3_exchangeLists_1 : decode cX3_exchangeLists 1 = .ok (.getfield 31, 3) := by decide +kernel
theorem dX3_exchangeLists_4 : decode cX3_exchangeLists 4 = .ok (.astore_n 1, 1) := by decide +kernel
theorem dX3_exchangeLists_5 : decode cX3_exchangeLists 5 = .ok (.aload_n 0, 1) := by decide +kernel
theorem dX3_exchangeLists_6 : decode cX3_exchangeLists 6 = .ok (.getfield 35, 3) := by decide +kernel
theorem dX3_exchangeLists_9 : decode cX3_exchangeLists 9 = .ok (.astore_n 2, 1) := by decide +kernel
theorem dX3_exchangeLists_10 : decode cX3_exchangeLists 10 = .ok (.aload_n 0, 1) := by decide +kernel
theorem dX3_exchangeLists_11 : decode cX3_exchangeLists 11 = .ok (.aload_n 0, 1) := by decide +kernel
theorem dX3_exchangeLists_12 : decode cX3_exchangeLists 12 = .ok (.getfield 38, 3) := by decide +kernel
theorem dX3_exchangeLists_15 : decode cX3_exchangeLists 15 = .ok (.putfield 31, 3) := by decide +kernel
theorem dX3_exchangeLists_18 : decode cX3_exchangeLists 18 = .ok (.aload_n 0, 1) := by decide +kernel
theorem dX3_exchangeLists_19 : decode cX3_exchangeLists 19 = .ok (.aload_n 0, 1) := by decide +kernel
theorem dX3_exchangeLists_20 : decode cX3_exchangeLists 20 = .ok (.getfield 41, 3) := by decide +kernel
theorem dX3_exchangeLists_23 : decode cX3_exchangeLists 23 = .ok (.putfield 35, 3) := by decide +kernel
theorem dX3_exchangeLists_26 : decode cX3_exchangeLists 26 = .ok (.aload_n 0, 1) := by decide +kernel
theorem dX3_exchangeLists_27 : decode cX3_exchangeLists 27 = .ok (.aload_n 0, 1) := by decide +kernel
theorem dX3_exchangeLists_28 : decode cX3_exchangeLists 28 = .ok (.getfield 78, 3) := by decide +kernel
theorem dX3_exchangeLists_31 : decode cX3_exchangeLists 31 = .ok (.putfield 106, 3) := by decide +kernel
theorem dX3_exchangeLists_34 : decode cX3_exchangeLists 34 = .ok (.aload_n 0, 1) := by decide +kernel
theorem dX3_exchangeLists_35 : decode cX3_exchangeLists 35 = .ok (.aload_n 1, 1) := by decide +kernel
theorem dX3_exchangeLists_36 : decode cX3_exchangeLists 36 = .ok (.putfield 38, 3) := by decide +kernel
theorem dX3_exchangeLists_39 : decode cX3_exchangeLists 39 = .ok (.aload_n 0, 1) := by decide +kernel
theorem dX3_exchangeLists_40 : decode cX3_exchangeLists 40 = .ok (.aload_n 2, 1) := by decide +kernel
theorem dX3_exchangeLists_41 : decode cX3_exchangeLists 41 = .ok (.putfield 41, 3) := by decide +kernel
theorem dX3_exchangeLists_44 : decode cX3_exchangeLists 44 = .ok (.aload_n 0, 1) := by decide +kernel
theorem dX3_exchangeLists_45 : decode cX3_exchangeLists 45 = .ok (.iconst 0, 1) := by decide +kernel
theorem dX3_exchangeLists_46 : decode cX3_exchangeLists 46 = .ok (.putfield 78, 3) := by decide +kernel
theorem dX3_exchangeLists_49 : decode cX3_exchangeLists 49 = .ok (.aload_n 0, 1) := by decide +kernel
theorem dX3_exchangeLists_50 : decode cX3_exchangeLists 50 = .ok (.dup, 1) := by decide +kernel
theorem dX3_exchangeLists_51 : decode cX3_exchangeLists 51 = .ok (.getfield 81, 3) := by decide +kernel
theorem dX3_exchangeLists_54 : decode cX3_exchangeLists 54 = .ok (.iconst 1, 1) := by decide +kernel
theorem dX3_exchangeLists_55 : decode cX3_exchangeLists 55 = .ok (.iadd, 1) := by decide +kernel
theorem dX3_exchangeLists_56 : decode cX3_exchangeLists 56 = .ok (.putfield 81, 3) := by decide +kernel
theorem dX3_exchangeLists_59 : decode cX3_exchangeLists 59 = .ok (.return_, 1) := by decide +kernel
theorem dX3_goAlong_0 : decode cX3_goAlong 0 = .ok (.iconst 0, 1) := by decide +kernel
theorem dX3_goAlong_1 : decode cX3_goAlong 1 = .ok (.istore 4, 2) := by decide +kernel
theorem dX3_goAlong_3 : decode cX3_goAlong 3 = .ok (.iload 4, 2) := by decide +kernel
theorem dX3_goAlong_5 : decode cX3_goAlong 5 = .ok (.aload_n 0, 1) := by decide +kernel
theorem dX3_goAlong_6 : decode cX3_goAlong 6 = .ok (.getfield 106, 3) := by decide +kernel
theorem dX3_goAlong_9 : decode cX3_goAlong 9 = .ok (.if_icmp .ge 147, 3) := by decide +kernel
theorem dX3_goAlong_12 : decode cX3_goAlong 12 = .ok (.iload 4, 2) := by decide +kernel
theorem dX3_goAlong_14 : decode cX3_goAlong 14 = .ok (.sipush 256, 3) := by decide +kernel
theorem dX3_goAlong_17 : decode cX3_goAlong 17 = .ok (.if_icmp .ge 139, 3) := by decide +kernel
theorem dX3_goAlong_20 : decode cX3_goAlong 20 = .ok (.aload_n 0, 1) := by decide +kernel
theorem dX3_goAlong_21 : decode cX3_goAlong 21 = .ok (.getfield 31, 3) := by decide +kernel
theorem dX3_goAlong_24 : decode cX3_goAlong 24 = .ok (.iload 4, 2) := by decide +kernel
theorem dX3_goAlong_26 : decode cX3_goAlong 26 = .ok (.iaload, 1) := by decide +kernel
theorem dX3_goAlong_27 : decode cX3_goAlong 27 = .ok (.istore 5, 2) := by decide +kernel
theorem dX3_goAlong_29 : decode cX3_goAlong 29 = .ok (.aload_n 0, 1) := by decide +kernel
theorem dX3_goAlong_30 : decode cX3_goAlong 30 = .ok (.getfield 35, 3) := by decide +kernel
theorem dX3_goAlong_33 : decode cX3_goAlong 33 = .ok (.iload 4, 2) := by decide +kernel
theorem dX3_goAlong_35 : decode cX3_goAlong 35 = .ok (.bipush 20, 2) := by decide +kernel
theorem dX3_goAlong_37 : decode cX3_goAlong 37 = .ok (.imul, 1) := by decide +kernel
theorem dX3_goAlong_38 : decode cX3_goAlong 38 = .ok (.aload_n 0, 1) := by decide +kernel
theorem dX3_goAlong_39 : decode cX3_goAlong 39 = .ok (.getfield 50, 3) := by decide +kernel
theorem dX3_goAlong_42 : decode cX3_goAlong 42 = .ok (.iconst 0, 1) := by decide +kernel
theorem dX3_goAlong_43 : decode cX3_goAlong 43 = .ok (.bipush 20, 2) := by decide +kernel
theorem dX3_goAlong_45 : decode cX3_goAlong 45 = .ok (.invokestatic 117, 3) := by decide +kernel
theorem dX3_goAlong_48 : decode cX3_goAlong 48 = .ok (.aload_n 0, 1) := by decide +kernel
theorem dX3_goAlong_49 : decode cX3_goAlong 49 = .ok (.getfield 14, 3) := by decide +kernel
theorem dX3_goAlong_52 : decode cX3_goAlong 52 = .ok (.iload 5, 2) := by decide +kernel
theorem dX3_goAlong_54 : decode cX3_goAlong 54 = .ok (.invokevirtual 123, 3) := by decide +kernel
theorem dX3_goAlong_57 : decode cX3_goAlong 57 = .ok (.bipush 6, 2) := by decide +kernel
theorem dX3_goAlong_59 : decode cX3_goAlong 59 = .ok (.if_icmp .eq 62, 3) := by decide +kernel
theorem dX3_goAlong_62 : decode cX3_goAlong 62 = .ok (.iload_n 1, 1) := by decide +kernel
theorem dX3_goAlong_63 : decode cX3_goAlong 63 = .ok (.aload_n 0, 1) := by decide +kernel
theorem dX3_goAlong_64 : decode cX3_goAlong 64 = .ok (.getfield 23, 3) := by decide +kernel
theorem dX3_goAlong_67 : decode cX3_goAlong 67 = .ok (.getfield 84, 3) := by decide +kernel
theorem dX3_goAlong_70 : decode cX3_goAlong 70 = .ok (.if_icmp .ge 80, 3) := by decide +kernel
theorem dX3_goAlong_73 : decode cX3_goAlong 73 = .ok (.aload_n 0, 1) := by decide +kernel
theorem dX3_goAlong_74 : decode cX3_goAlong 74 = .ok (.getfield 14, 3) := by decide +kernel
theorem dX3_goAlong_77 : decode cX3_goAlong 77 = .ok (.iload 5, 2) := by decide +kernel
theorem dX3_goAlong_79 : decode cX3_goAlong 79 = .ok (.aload_n 0, 1) := by decide +kernel
theorem dX3_goAlong_80 : decode cX3_goAlong 80 = .ok (.getfield 23, 3) := by decide +kernel
theorem dX3_goAlong_83 : decode cX3_goAlong 83 = .ok (.iload_n 1, 1) := by decide +kernel
theorem dX3_goAlong_84 : decode cX3_goAlong 84 = .ok (.invokevirtual 127, 3) := by decide +kernel
theorem dX3_goAlong_87 : decode cX3_goAlong 87 = .ok (.invokevirtual 130, 3) := by decide +kernel
theorem dX3_goAlong_90 : decode cX3_goAlong 90 = .ok (.ifCond .eq 60, 3) := by decide +kernel
theorem dX3_goAlong_93 : decode cX3_goAlong 93 = .ok (.aload_n 0, 1) := by decide +kernel
theorem dX3_goAlong_94 : decode cX3_goAlong 94 = .ok (.aload_n 0, 1) := by decide +kernel
theorem dX3_goAlong_95 : decode cX3_goAlong 95 = .ok (.getfield 14, 3) := by decide +kernel
theorem dX3_goAlong_98 : decode cX3_goAlong 98 = .ok (.iload 5, 2) := by decide +kernel
theorem dX3_goAlong_100 : decode cX3_goAlong 100 = .ok (.invokevirtual 134, 3) := by decide +kernel
theorem dX3_goAlong_103 : decode cX3_goAlong 103 = .ok (.aload_n 0, 1) := by decide +kernel
theorem dX3_goAlong_104 : decode cX3_goAlong 104 = .ok (.getfield 14, 3) := by decide +kernel
theorem dX3_goAlong_107 : decode cX3_goAlong 107 = .ok (.iload 5, 2) := by decide +kernel
theorem dX3_goAlong_109 : decode cX3_goAlong 109 = .ok (.invokevirtual 137, 3) := by decide +kernel
theorem dX3_goAlong_112 : decode cX3_goAlong 112 = .ok (.iload_n 1, 1) := by decide +kernel
theorem dX3_goAlong_113 : decode cX3_goAlong 113 = .ok (.iconst 1, 1) := by decide +kernel
theorem dX3_goAlong_114 : decode cX3_goAlong 114 = .ok (.iadd, 1) := by decide +kernel
theorem dX3_goAlong_115 : decode cX3_goAlong 115 = .ok (.invokevirtual 99, 3) := by decide +kernel
theorem dX3_goAlong_118 : decode cX3_goAlong 118 = .ok (.goto 32, 3) := by decide +kernel
theorem dX3_goAlong_121 : decode cX3_goAlong 121 = .ok (.iload_n 2, 1) := by decide +kernel
theorem dX3_goAlong_122 : decode cX3_goAlong 122 = .ok (.ifCond .eq 14, 3) := by decide +kernel
theorem dX3_goAlong_125 : decode cX3_goAlong 125 = .ok (.iload_n 1, 1) := by decide +kernel
theorem dX3_goAlong_126 : decode cX3_goAlong 126 = .ok (.aload_n 0, 1) := by decide +kernel
theorem dX3_goAlong_127 : decode cX3_goAlong 127 = .ok (.getfield 23, 3) := by decide +kernel
theorem dX3_goAlong_130 : decode cX3_goAlong 130 = .ok (.getfield 84, 3) := by decide +kernel
theorem dX3_goAlong_133 : decode cX3_goAlong 133 = .ok (.if_icmp .ne 17, 3) := by decide +kernel
theorem dX3_goAlong_136 : decode cX3_goAlong 136 = .ok (.aload_n 0, 1) := by decide +kernel
theorem dX3_goAlong_137 : decode cX3_goAlong 137 = .ok (.getfield 50, 3) := by decide +kernel
theorem dX3_goAlong_140 : decode cX3_goAlong 140 = .ok (.iconst 1, 1) := by decide +kernel
theorem dX3_goAlong_141 : decode cX3_goAlong 141 = .ok (.iload_n 1, 1) := by decide +kernel
theorem dX3_goAlong_142 : decode cX3_goAlong 142 = .ok (.iastore, 1) := by decide +kernel
theorem dX3_goAlong_143 : decode cX3_goAlong 143 = .ok (.aload_n 0, 1) := by decide +kernel
theorem dX3_goAlong_144 : decode cX3_goAlong 144 = .ok (.aload_n 3, 1) := by decide +kernel
theorem dX3_goAlong_145 : decode cX3_goAlong 145 = .ok (.invokevirtual 140, 3) := by decide +kernel
theorem dX3_goAlong_148 : decode cX3_goAlong 148 = .ok (.iconst 1, 1) := by decide +kernel
theorem dX3_goAlong_149 : decode cX3_goAlong 149 = .ok (.ireturn, 1) := by decide +kernel
theorem dX3_goAlong_150 : decode cX3_goAlong 150 = .ok (.iinc 4 1, 3) := by decide +kernel
theorem dX3_goAlong_153 : decode cX3_goAlong 153 = .ok (.goto (-150), 3) := by decide +kernel
theorem dX3_goAlong_156 : decode cX3_goAlong 156 = .ok (.iconst 0, 1) := by decide +kernel
theorem dX3_goAlong_157 : decode cX3_goAlong 157 = .ok (.ireturn, 1) := by decide +kernel
theorem dX3_isNew_0 : decode cX3_isNew 0 = .ok (.iload_n 1, 1) := by decide +kernel
theorem dX3_isNew_1 : decode cX3_isNew 1 = .ok (.ifCond .lt 23, 3) := by decide +kernel
theorem dX3_isNew_4 : decode cX3_isNew 4 = .ok (.iload_n 1, 1) := by decide +kernel
theorem dX3_isNew_5 : decode cX3_isNew 5 = .ok (.sipush 5632, 3) := by decide +kernel
theorem dX3_isNew_8 : decode cX3_isNew 8 = .ok (.if_icmp .ge 16, 3) := by decide +kernel
theorem dX3_isNew_11 : decode cX3_isNew 11 = .ok (.aload_n 0, 1) := by decide +kernel
theorem dX3_isNew_12 : decode cX3_isNew 12 = .ok (.getfield 44, 3) := by decide +kernel
theorem dX3_isNew_15 : decode cX3_isNew 15 = .ok (.iload_n 1, 1) := by decide +kernel
theorem dX3_isNew_16 : decode cX3_isNew 16 = .ok (.iaload, 1) := by decide +kernel
theorem dX3_isNew_17 : decode cX3_isNew 17 = .ok (.aload_n 0, 1) := by decide +kernel
theorem dX3_isNew_18 : decode cX3_isNew 18 = .ok (.getfield 81, 3) := by decide +kernel
theorem dX3_isNew_21 : decode cX3_isNew 21 = .ok (.if_icmp .ne 5, 3) := by decide +kernel
theorem dX3_isNew_24 : decode cX3_isNew 24 = .ok (.iconst 0, 1) := by decide +kernel
theorem dX3_isNew_25 : decode cX3_isNew 25 = .ok (.ireturn, 1) := by decide +kernel
theorem dX3_isNew_26 : decode cX3_isNew 26 = .ok (.aload_n 0, 1) := by decide +kernel
theorem dX3_isNew_27 : decode cX3_isNew 27 = .ok (.getfield 44, 3) := by decide +kernel
theorem dX3_isNew_30 : decode cX3_isNew 30 = .ok (.iload_n 1, 1) := by decide +kernel
theorem dX3_isNew_31 : decode cX3_isNew 31 = .ok (.aload_n 0, 1) := by decide +kernel
theorem dX3_isNew_32 : decode cX3_isNew 32 = .ok (.getfield 81, 3) := by decide +kernel
theorem dX3_isNew_35 : decode cX3_isNew 35 = .ok (.iastore, 1) := by decide +kernel
theorem dX3_isNew_36 : decode cX3_isNew 36 = .ok (.iconst 1, 1) := by decide +kernel
theorem dX3_isNew_37 : decode cX3_isNew 37 = .ok (.ireturn, 1) := by decide +kernel
theorem dX3_markEdges_0 : decode cX3_markEdges 0 = .ok (.iconst 0, 1) := by decide +kernel
theorem dX3_markEdges_1 : decode cX3_markEdges 1 = .ok (.istore_n 2, 1) := by decide +kernel
theorem dX3_markEdges_2 : decode cX3_markEdges 2 = .ok (.iload_n 2, 1) := by decide +kernel
theorem dX3_markEdges_3 : decode cX3_markEdges 3 = .ok (.aload_n 0, 1) := by decide +kernel
theorem dX3_markEdges_4 : decode cX3_markEdges 4 = .ok (.getfield 27, 3) := by decide +kernel
theorem dX3_markEdges_7 : decode cX3_markEdges 7 = .ok (.arraylength, 1) := by decide +kernel
theorem dX3_markEdges_8 : decode cX3_markEdges 8 = .ok (.if_icmp .ge 24, 3) := by decide +kernel
theorem dX3_markEdges_11 : decode cX3_markEdges 11 = .ok (.aload_n 0, 1) := by decide +kernel
theorem dX3_markEdges_12 : decode cX3_markEdges 12 = .ok (.getfield 27, 3) := by decide +kernel
theorem dX3_markEdges_15 : decode cX3_markEdges 15 = .ok (.iload_n 2, 1) := by decide +kernel
theorem dX3_markEdges_16 : decode cX3_markEdges 16 = .ok (.iload_n 2, 1) := by decide +kernel
theorem dX3_markEdges_17 : decode cX3_markEdges 17 = .ok (.aload_n 0, 1) := by decide +kernel
theorem dX3_markEdges_18 : decode cX3_markEdges 18 = .ok (.getfield 23, 3) := by decide +kernel
theorem dX3_markEdges_21 : decode cX3_markEdges 21 = .ok (.iload_n 1, 1) := by decide +kernel
theorem dX3_markEdges_22 : decode cX3_markEdges 22 = .ok (.invokestatic 113, 3) := by decide +kernel
theorem dX3_markEdges_25 : decode cX3_markEdges 25 = .ok (.bastore, 1) := by decide +kernel
theorem dX3_markEdges_26 : decode cX3_markEdges 26 = .ok (.iinc 2 1, 3) := by decide +kernel
theorem dX3_markEdges_29 : decode cX3_markEdges 29 = .ok (.goto (-27), 3) := by decide +kernel
theorem dX3_markEdges_32 : decode cX3_markEdges 32 = .ok (.return_, 1) := by decide +kernel
theorem dX3_push_0 : decode cX3_push 0 = .ok (.aload_n 0, 1) := by decide +kernel
theorem dX3_push_1 : decode cX3_push 1 = .ok (.getfield 150, 3) := by decide +kernel
theorem dX3_push_4 : decode cX3_push 4 = .ok (.ifCond .lt 43, 3) := by decide +kernel
theorem dX3_push_7 : decode cX3_push 7 = .ok (.aload_n 0, 1) := by decide +kernel
theorem dX3_push_8 : decode cX3_push 8 = .ok (.getfield 150, 3) := by decide +kernel
theorem dX3_push_11 : decode cX3_push 11 = .ok (.sipush 11266, 3) := by decide +kernel
theorem dX3_push_14 : decode cX3_push 14 = .ok (.if_icmp .ge 33, 3) := by decide +kernel
theorem dX3_push_17 : decode cX3_push 17 = .ok (.aload_n 0, 1) := by decide +kernel
theorem dX3_push_18 : decode cX3_push 18 = .ok (.getfield 53, 3) := by decide +kernel
theorem dX3_push_21 : decode cX3_push 21 = .ok (.aload_n 0, 1) := by decide +kernel
theorem dX3_push_22 : decode cX3_push 22 = .ok (.getfield 150, 3) := by decide +kernel
theorem dX3_push_25 : decode cX3_push 25 = .ok (.iload_n 1, 1) := by decide +kernel
theorem dX3_push_26 : decode cX3_push 26 = .ok (.iastore, 1) := by decide +kernel
theorem dX3_push_27 : decode cX3_push 27 = .ok (.aload_n 0, 1) := by decide +kernel
theorem dX3_push_28 : decode cX3_push 28 = .ok (.getfield 56, 3) := by decide +kernel
theorem dX3_push_31 : decode cX3_push 31 = .ok (.aload_n 0, 1) := by decide +kernel
theorem dX3_push_32 : decode cX3_push 32 = .ok (.getfield 150, 3) := by decide +kernel
theorem dX3_push_35 : decode cX3_push 35 = .ok (.iload_n 2, 1) := by decide +kernel
theorem dX3_push_36 : decode cX3_push 36 = .ok (.iastore, 1) := by decide +kernel
theorem dX3_push_37 : decode cX3_push 37 = .ok (.aload_n 0, 1) := by decide +kernel
theorem dX3_push_38 : decode cX3_push 38 = .ok (.dup, 1) := by decide +kernel
theorem dX3_push_39 : decode cX3_push 39 = .ok (.getfield 150, 3) := by decide +kernel
theorem dX3_push_42 : decode cX3_push 42 = .ok (.iconst 1, 1) := by decide +kernel
theorem dX3_push_43 : decode cX3_push 43 = .ok (.iadd, 1) := by decide +kernel
theorem dX3_push_44 : decode cX3_push 44 = .ok (.putfield 150, 3) := by decide +kernel
theorem dX3_push_47 : decode cX3_push 47 = .ok (.return_, 1) := by decide +kernel
theorem dX3_run_0 : decode cX3_run 0 = .ok (.aload_n 0, 1) := by decide +kernel
theorem dX3_run_1 : decode cX3_run 1 = .ok (.getfield 14, 3) := by decide +kernel
theorem dX3_run_4 : decode cX3_run 4 = .ok (.aload_n 1, 1) := by decide +kernel
theorem dX3_run_5 : decode cX3_run 5 = .ok (.invokevirtual 59, 3) := by decide +kernel
theorem dX3_run_8 : decode cX3_run 8 = .ok (.aload_n 0, 1) := by decide +kernel
theorem dX3_run_9 : decode cX3_run 9 = .ok (.aload_n 2, 1) := by decide +kernel
theorem dX3_run_10 : decode cX3_run 10 = .ok (.putfield 23, 3) := by decide +kernel
theorem dX3_run_13 : decode cX3_run 13 = .ok (.aload_n 0, 1) := by decide +kernel
theorem dX3_run_14 : decode cX3_run 14 = .ok (.bipush 20, 2) := by decide +kernel
theorem dX3_run_16 : decode cX3_run 16 = .ok (.iconst 2, 1) := by decide +kernel
theorem dX3_run_17 : decode cX3_run 17 = .ok (.aload_n 1, 1) := by decide +kernel
theorem dX3_run_18 : decode cX3_run 18 = .ok (.getfield 63, 3) := by decide +kernel
theorem dX3_run_21 : decode cX3_run 21 = .ok (.imul, 1) := by decide +kernel
theorem dX3_run_22 : decode cX3_run 22 = .ok (.iconst 2, 1) := by decide +kernel
theorem dX3_run_23 : decode cX3_run 23 = .ok (.iadd, 1) := by decide +kernel
theorem dX3_run_24 : decode cX3_run 24 = .ok (.invokestatic 69, 3) := by decide +kernel
theorem dX3_run_27 : decode cX3_run 27 = .ok (.putfield 75, 3) := by decide +kernel
theorem dX3_run_30 : decode cX3_run 30 = .ok (.aload_n 0, 1) := by decide +kernel
theorem dX3_run_31 : decode cX3_run 31 = .ok (.iconst 0, 1) := by decide +kernel
theorem dX3_run_32 : decode cX3_run 32 = .ok (.putfield 78, 3) := by decide +kernel
theorem dX3_run_35 : decode cX3_run 35 = .ok (.aload_n 0, 1) := by decide +kernel
theorem dX3_run_36 : decode cX3_run 36 = .ok (.dup, 1) := by decide +kernel
theorem dX3_run_37 : decode cX3_run 37 = .ok (.getfield 81, 3) := by decide +kernel
theorem dX3_run_40 : decode cX3_run 40 = .ok (.iconst 1, 1) := by decide +kernel
theorem dX3_run_41 : decode cX3_run 41 = .ok (.iadd, 1) := by decide +kernel
theorem dX3_run_42 : decode cX3_run 42 = .ok (.putfield 81, 3) := by decide +kernel
theorem dX3_run_45 : decode cX3_run 45 = .ok (.iconst 0, 1) := by decide +kernel
theorem dX3_run_46 : decode cX3_run 46 = .ok (.istore 6, 2) := by decide +kernel
theorem dX3_run_48 : decode cX3_run 48 = .ok (.iload_n 3, 1) := by decide +kernel
theorem dX3_run_49 : decode cX3_run 49 = .ok (.istore 7, 2) := by decide +kernel
theorem dX3_run_51 : decode cX3_run 51 = .ok (.iload 7, 2) := by decide +kernel
theorem dX3_run_53 : decode cX3_run 53 = .ok (.aload_n 0, 1) := by decide +kernel
theorem dX3_run_54 : decode cX3_run 54 = .ok (.getfield 23, 3) := by decide +kernel
theorem dX3_run_57 : decode cX3_run 57 = .ok (.getfield 84, 3) := by decide +kernel
theorem dX3_run_60 : decode cX3_run 60 = .ok (.if_icmp .gt 108, 3) := by decide +kernel
theorem dX3_run_63 : decode cX3_run 63 = .ok (.iload 6, 2) := by decide +kernel
theorem dX3_run_65 : decode cX3_run 65 = .ok (.ifCond .ne 50, 3) := by decide +kernel
theorem dX3_run_68 : decode cX3_run 68 = .ok (.iload 7, 2) := by decide +kernel
theorem dX3_run_70 : decode cX3_run 70 = .ok (.iload_n 3, 1) := by decide +kernel
theorem dX3_run_71 : decode cX3_run 71 = .ok (.if_icmp .eq 8, 3) := by decide +kernel
theorem dX3_run_74 : decode cX3_run 74 = .ok (.iload 4, 2) := by decide +kernel
theorem dX3_run_76 : decode cX3_run 76 = .ok (.ifCond .ne 39, 3) := by decide +kernel
theorem dX3_run_79 : decode cX3_run 79 = .ok (.aload_n 0, 1) := by decide +kernel
theorem dX3_run_80 : decode cX3_run 80 = .ok (.getfield 50, 3) := by decide +kernel
theorem dX3_run_83 : decode cX3_run 83 = .ok (.iconst (-1), 1) := by decide +kernel
theorem dX3_run_84 : decode cX3_run 84 = .ok (.invokestatic 87, 3) := by decide +kernel
theorem dX3_run_87 : decode cX3_run 87 = .ok (.aload_n 0, 1) := by decide +kernel
theorem dX3_run_88 : decode cX3_run 88 = .ok (.getfield 50, 3) := by decide +kernel
theorem dX3_run_91 : decode cX3_run 91 = .ok (.iconst 0, 1) := by decide +kernel
theorem dX3_run_92 : decode cX3_run 92 = .ok (.iload 7, 2) := by decide +kernel
theorem dX3_run_94 : decode cX3_run 94 = .ok (.iastore, 1) := by decide +kernel
theorem dX3_run_95 : decode cX3_run 95 = .ok (.aload_n 0, 1) := by decide +kernel
theorem dX3_run_96 : decode cX3_run 96 = .ok (.iload 7, 2) := by decide +kernel
theorem dX3_run_98 : decode cX3_run 98 = .ok (.invokevirtual 93, 3) := by decide +kernel
theorem dX3_run_101 : decode cX3_run 101 = .ok (.aload_n 0, 1) := by decide +kernel
theorem dX3_run_102 : decode cX3_run 102 = .ok (.aload_n 0, 1) := by decide +kernel
theorem dX3_run_103 : decode cX3_run 103 = .ok (.getfield 14, 3) := by decide +kernel
theorem dX3_run_106 : decode cX3_run 106 = .ok (.getfield 96, 3) := by decide +kernel
theorem dX3_run_109 : decode cX3_run 109 = .ok (.iconst 0, 1) := by decide +kernel
theorem dX3_run_110 : decode cX3_run 110 = .ok (.iload 7, 2) := by decide +kernel
theorem dX3_run_112 : decode cX3_run 112 = .ok (.invokevirtual 99, 3) := by decide +kernel
theorem dX3_run_115 : decode cX3_run 115 = .ok (.aload_n 0, 1) := by decide +kernel
theorem dX3_run_116 : decode cX3_run 116 = .ok (.invokevirtual 103, 3) := by decide +kernel
theorem dX3_run_119 : decode cX3_run 119 = .ok (.aload_n 0, 1) := by decide +kernel
theorem dX3_run_120 : decode cX3_run 120 = .ok (.getfield 106, 3) := by decide +kernel
theorem dX3_run_123 : decode cX3_run 123 = .ok (.ifCond .ne 16, 3) := by decide +kernel
theorem dX3_run_126 : decode cX3_run 126 = .ok (.iload 6, 2) := by decide +kernel
theorem dX3_run_128 : decode cX3_run 128 = .ok (.ifCond .ne 40, 3) := by decide +kernel
theorem dX3_run_131 : decode cX3_run 131 = .ok (.iload 4, 2) := by decide +kernel
theorem dX3_run_133 : decode cX3_run 133 = .ok (.ifCond .eq 6, 3) := by decide +kernel
theorem dX3_run_136 : decode cX3_run 136 = .ok (.goto 32, 3) := by decide +kernel
theorem dX3_run_139 : decode cX3_run 139 = .ok (.aload_n 0, 1) := by decide +kernel
theorem dX3_run_140 : decode cX3_run 140 = .ok (.iload 7, 2) := by decide +kernel
theorem dX3_run_142 : decode cX3_run 142 = .ok (.iconst 1, 1) := by decide +kernel
theorem dX3_run_143 : decode cX3_run 143 = .ok (.iadd, 1) := by decide +kernel
theorem dX3_run_144 : decode cX3_run 144 = .ok (.invokevirtual 93, 3) := by decide +kernel
theorem dX3_run_147 : decode cX3_run 147 = .ok (.iload 6, 2) := by decide +kernel
theorem dX3_run_149 : decode cX3_run 149 = .ok (.aload_n 0, 1) := by decide +kernel
theorem dX3_run_150 : decode cX3_run 150 = .ok (.iload 7, 2) := by decide +kernel
theorem dX3_run_152 : decode cX3_run 152 = .ok (.iload 4, 2) := by decide +kernel
theorem dX3_run_154 : decode cX3_run 154 = .ok (.aload 5, 2) := by decide +kernel
theorem dX3_run_156 : decode cX3_run 156 = .ok (.invokevirtual 109, 3) := by decide +kernel
theorem dX3_run_159 : decode cX3_run 159 = .ok (.ior, 1) := by decide +kernel
theorem dX3_run_160 : decode cX3_run 160 = .ok (.istore 6, 2) := by decide +kernel
theorem dX3_run_162 : decode cX3_run 162 = .ok (.iinc 7 1, 3) := by decide +kernel
theorem dX3_run_165 : decode cX3_run 165 = .ok (.goto (-114), 3) := by decide +kernel
theorem dX3_run_168 : decode cX3_run 168 = .ok (.iload 6, 2) := by decide +kernel
theorem dX3_run_170 : decode cX3_run 170 = .ok (.ireturn, 1) := by decide +kernel
theorem dX3_setCell_0 : decode cX3_setCell 0 = .ok (.iload_n 1, 1) := by decide +kernel
theorem dX3_setCell_1 : decode cX3_setCell 1 = .ok (.ifCond .lt 16, 3) := by decide +kernel
theorem dX3_setCell_4 : decode cX3_setCell 4 = .ok (.iload_n 1, 1) := by decide +kernel
theorem dX3_setCell_5 : decode cX3_setCell 5 = .ok (.bipush 20, 2) := by decide +kernel
theorem dX3_setCell_7 : decode cX3_setCell 7 = .ok (.if_icmp .ge 10, 3) := by decide +kernel
theorem dX3_setCell_10 : decode cX3_setCell 10 = .ok (.aload_n 0, 1) := by decide +kernel
theorem dX3_setCell_11 : decode cX3_setCell 11 = .ok (.getfield 50, 3) := by decide +kernel
theorem dX3_setCell_14 : decode cX3_setCell 14 = .ok (.iload_n 1, 1) := by decide +kernel
theorem dX3_setCell_15 : decode cX3_setCell 15 = .ok (.iload_n 2, 1) := by decide +kernel
theorem dX3_setCell_16 : decode cX3_setCell 16 = .ok (.iastore, 1) := by decide +kernel
theorem dX3_setCell_17 : decode cX3_setCell 17 = .ok (.return_, 1) := by decide +kernel
theorem dX3_spread_0 : decode cX3_spread 0 = .ok (.aload_n 0, 1) := by decide +kernel
theorem dX3_spread_1 : decode cX3_spread 1 = .ok (.iconst 0, 1) := by decide +kernel
theorem dX3_spread_2 : decode cX3_spread 2 = .ok (.putfield 150, 3) := by decide +kernel
theorem dX3_spread_5 : decode cX3_spread 5 = .ok (.aload_n 0, 1) := by decide +kernel
theorem dX3_spread_6 : decode cX3_spread 6 = .ok (.iload_n 1, 1) := by decide +kernel
theorem dX3_spread_7 : decode cX3_spread 7 = .ok (.iload_n 2, 1) := by decide +kernel
theorem dX3_spread_8 : decode cX3_spread 8 = .ok (.invokevirtual 153, 3) := by decide +kernel
theorem dX3_spread_11 : decode cX3_spread 11 = .ok (.iconst 0, 1) := by decide +kernel
theorem dX3_spread_12 : decode cX3_spread 12 = .ok (.istore 4, 2) := by decide +kernel
theorem dX3_spread_14 : decode cX3_spread 14 = .ok (.iload 4, 2) := by decide +kernel
theorem dX3_spread_16 : decode cX3_spread 16 = .ok (.sipush 11266, 3) := by decide +kernel
theorem dX3_spread_19 : decode cX3_spread 19 = .ok (.if_icmp .ge 100, 3) := by decide +kernel
theorem dX3_spread_22 : decode cX3_spread 22 = .ok (.aload_n 0, 1) := by decide +kernel
theorem dX3_spread_23 : decode cX3_spread 23 = .ok (.getfield 150, 3) := by decide +kernel
theorem dX3_spread_26 : decode cX3_spread 26 = .ok (.ifCond .le 93, 3) := by decide +kernel
theorem dX3_spread_29 : decode cX3_spread 29 = .ok (.aload_n 0, 1) := by decide +kernel
theorem dX3_spread_30 : decode cX3_spread 30 = .ok (.getfield 150, 3) := by decide +kernel
theorem dX3_spread_33 : decode cX3_spread 33 = .ok (.sipush 11266, 3) := by decide +kernel
theorem dX3_spread_36 : decode cX3_spread 36 = .ok (.if_icmp .gt 83, 3) := by decide +kernel
theorem dX3_spread_39 : decode cX3_spread 39 = .ok (.aload_n 0, 1) := by decide +kernel
theorem dX3_spread_40 : decode cX3_spread 40 = .ok (.dup, 1) := by decide +kernel
theorem dX3_spread_41 : decode cX3_spread 41 = .ok (.getfield 150, 3) := by decide +kernel
theorem dX3_spread_44 : decode cX3_spread 44 = .ok (.iconst 1, 1) := by decide +kernel
theorem dX3_spread_45 : decode cX3_spread 45 = .ok (.isub, 1) := by decide +kernel
theorem dX3_spread_46 : decode cX3_spread 46 = .ok (.putfield 150, 3) := by decide +kernel
theorem dX3_spread_49 : decode cX3_spread 49 = .ok (.aload_n 0, 1) := by decide +kernel
theorem dX3_spread_50 : decode cX3_spread 50 = .ok (.getfield 53, 3) := by decide +kernel
theorem dX3_spread_53 : decode cX3_spread 53 = .ok (.aload_n 0, 1) := by decide +kernel
theorem dX3_spread_54 : decode cX3_spread 54 = .ok (.getfield 150, 3) := by decide +kernel
theorem dX3_spread_57 : decode cX3_spread 57 = .ok (.iaload, 1) := by decide +kernel
theorem dX3_spread_58 : decode cX3_spread 58 = .ok (.istore 5, 2) := by decide +kernel
theorem dX3_spread_60 : decode cX3_spread 60 = .ok (.aload_n 0, 1) := by decide +kernel
theorem dX3_spread_61 : decode cX3_spread 61 = .ok (.getfield 56, 3) := by decide +kernel
theorem dX3_spread_64 : decode cX3_spread 64 = .ok (.aload_n 0, 1) := by decide +kernel
theorem dX3_spread_65 : decode cX3_spread 65 = .ok (.getfield 150, 3) := by decide +kernel
theorem dX3_spread_68 : decode cX3_spread 68 = .ok (.iaload, 1) := by decide +kernel
theorem dX3_spread_69 : decode cX3_spread 69 = .ok (.istore 6, 2) := by decide +kernel
theorem dX3_spread_71 : decode cX3_spread 71 = .ok (.iload 5, 2) := by decide +kernel
theorem dX3_spread_73 : decode cX3_spread 73 = .ok (.ifCond .ge 16, 3) := by decide +kernel
theorem dX3_spread_76 : decode cX3_spread 76 = .ok (.aload_n 0, 1) := by decide +kernel
theorem dX3_spread_77 : decode cX3_spread 77 = .ok (.iconst (-1), 1) := by decide +kernel
theorem dX3_spread_78 : decode cX3_spread 78 = .ok (.iload 5, 2) := by decide +kernel
theorem dX3_spread_80 : decode cX3_spread 80 = .ok (.isub, 1) := by decide +kernel
theorem dX3_spread_81 : decode cX3_spread 81 = .ok (.iload 6, 2) := by decide +kernel
theorem dX3_spread_83 : decode cX3_spread 83 = .ok (.invokevirtual 157, 3) := by decide +kernel
theorem dX3_spread_86 : decode cX3_spread 86 = .ok (.goto 27, 3) := by decide +kernel
theorem dX3_spread_89 : decode cX3_spread 89 = .ok (.aload_n 0, 1) := by decide +kernel
theorem dX3_spread_90 : decode cX3_spread 90 = .ok (.iload 5, 2) := by decide +kernel
theorem dX3_spread_92 : decode cX3_spread 92 = .ok (.bipush 11, 2) := by decide +kernel
theorem dX3_spread_94 : decode cX3_spread 94 = .ok (.imul, 1) := by decide +kernel
theorem dX3_spread_95 : decode cX3_spread 95 = .ok (.iload 6, 2) := by decide +kernel
theorem dX3_spread_97 : decode cX3_spread 97 = .ok (.iadd, 1) := by decide +kernel
theorem dX3_spread_98 : decode cX3_spread 98 = .ok (.invokevirtual 160, 3) := by decide +kernel
theorem dX3_spread_101 : decode cX3_spread 101 = .ok (.ifCond .eq 12, 3) := by decide +kernel
theorem dX3_spread_104 : decode cX3_spread 104 = .ok (.aload_n 0, 1) := by decide +kernel
theorem dX3_spread_105 : decode cX3_spread 105 = .ok (.iload 5, 2) := by decide +kernel
theorem dX3_spread_107 : decode cX3_spread 107 = .ok (.iload 6, 2) := by decide +kernel
theorem dX3_spread_109 : decode cX3_spread 109 = .ok (.iload_n 3, 1) := by decide +kernel
theorem dX3_spread_110 : decode cX3_spread 110 = .ok (.invokevirtual 164, 3) := by decide +kernel
theorem dX3_spread_113 : decode cX3_spread 113 = .ok (.iinc 4 1, 3) := by decide +kernel
theorem dX3_spread_116 : decode cX3_spread 116 = .ok (.goto (-102), 3) := by decide +kernel
theorem dX3_spread_119 : decode cX3_spread 119 = .ok (.return_, 1) := by decide +kernel
theorem dX3_spreadOne_0 : decode cX3_spreadOne 0 = .ok (.aload_n 0, 1) := by decide +kernel
theorem dX3_spreadOne_1 : decode cX3_spreadOne 1 = .ok (.getfield 14, 3) := by decide +kernel
theorem dX3_spreadOne_4 : decode cX3_spreadOne 4 = .ok (.iload_n 1, 1) := by decide +kernel
theorem dX3_spreadOne_5 : decode cX3_spreadOne 5 = .ok (.invokevirtual 134, 3) := by decide +kernel
theorem dX3_spreadOne_8 : decode cX3_spreadOne 8 = .ok (.istore 4, 2) := by decide +kernel
theorem dX3_spreadOne_10 : decode cX3_spreadOne 10 = .ok (.aload_n 0, 1) := by decide +kernel
theorem dX3_spreadOne_11 : decode cX3_spreadOne 11 = .ok (.getfield 14, 3) := by decide +kernel
theorem dX3_spreadOne_14 : decode cX3_spreadOne 14 = .ok (.iload_n 1, 1) := by decide +kernel
theorem dX3_spreadOne_15 : decode cX3_spreadOne 15 = .ok (.invokevirtual 123, 3) := by decide +kernel
theorem dX3_spreadOne_18 : decode cX3_spreadOne 18 = .ok (.tableswitch 187 1 5 #[34, 126, 126, 79, 102], 34) := by decide +kernel
theorem dX3_spreadOne_52 : decode cX3_spreadOne 52 = .ok (.aload_n 0, 1) := by decide +kernel
theorem dX3_spreadOne_53 : decode cX3_spreadOne 53 = .ok (.getfield 14, 3) := by decide +kernel
theorem dX3_spreadOne_56 : decode cX3_spreadOne 56 = .ok (.iload_n 1, 1) := by decide +kernel
theorem dX3_spreadOne_57 : decode cX3_spreadOne 57 = .ok (.invokevirtual 167, 3) := by decide +kernel
theorem dX3_spreadOne_60 : decode cX3_spreadOne 60 = .ok (.istore 5, 2) := by decide +kernel
theorem dX3_spreadOne_62 : decode cX3_spreadOne 62 = .ok (.iload 5, 2) := by decide +kernel
theorem dX3_spreadOne_64 : decode cX3_spreadOne 64 = .ok (.ifCond .lt 146, 3) := by decide +kernel
theorem dX3_spreadOne_67 : decode cX3_spreadOne 67 = .ok (.iload 5, 2) := by decide +kernel
theorem dX3_spreadOne_69 : decode cX3_spreadOne 69 = .ok (.aload_n 0, 1) := by decide +kernel
theorem dX3_spreadOne_70 : decode cX3_spreadOne 70 = .ok (.getfield 27, 3) := by decide +kernel
theorem dX3_spreadOne_73 : decode cX3_spreadOne 73 = .ok (.arraylength, 1) := by decide +kernel
theorem dX3_spreadOne_74 : decode cX3_spreadOne 74 = .ok (.if_icmp .ge 136, 3) := by decide +kernel
theorem dX3_spreadOne_77 : decode cX3_spreadOne 77 = .ok (.aload_n 0, 1) := by decide +kernel
theorem dX3_spreadOne_78 : decode cX3_spreadOne 78 = .ok (.getfield 27, 3) := by decide +kernel
theorem dX3_spreadOne_81 : decode cX3_spreadOne 81 = .ok (.iload 5, 2) := by decide +kernel
theorem dX3_spreadOne_83 : decode cX3_spreadOne 83 = .ok (.baload, 1) := by decide +kernel
theorem dX3_spreadOne_84 : decode cX3_spreadOne 84 = .ok (.ifCond .eq 126, 3) := by decide +kernel
theorem dX3_spreadOne_87 : decode cX3_spreadOne 87 = .ok (.aload_n 0, 1) := by decide +kernel
theorem dX3_spreadOne_88 : decode cX3_spreadOne 88 = .ok (.iload 4, 2) := by decide +kernel
theorem dX3_spreadOne_90 : decode cX3_spreadOne 90 = .ok (.iload_n 2, 1) := by decide +kernel
theorem dX3_spreadOne_91 : decode cX3_spreadOne 91 = .ok (.invokevirtual 153, 3) := by decide +kernel
theorem dX3_spreadOne_94 : decode cX3_spreadOne 94 = .ok (.goto 116, 3) := by decide +kernel
theorem dX3_spreadOne_97 : decode cX3_spreadOne 97 = .ok (.aload_n 0, 1) := by decide +kernel
theorem dX3_spreadOne_98 : decode cX3_spreadOne 98 = .ok (.aload_n 0, 1) := by decide +kernel
theorem dX3_spreadOne_99 : decode cX3_spreadOne 99 = .ok (.getfield 14, 3) := by decide +kernel
theorem dX3_spreadOne_102 : decode cX3_spreadOne 102 = .ok (.iload_n 1, 1) := by decide +kernel
theorem dX3_spreadOne_103 : decode cX3_spreadOne 103 = .ok (.invokevirtual 137, 3) := by decide +kernel
theorem dX3_spreadOne_106 : decode cX3_spreadOne 106 = .ok (.iload_n 2, 1) := by decide +kernel
theorem dX3_spreadOne_107 : decode cX3_spreadOne 107 = .ok (.invokevirtual 153, 3) := by decide +kernel
theorem dX3_spreadOne_110 : decode cX3_spreadOne 110 = .ok (.aload_n 0, 1) := by decide +kernel
theorem dX3_spreadOne_111 : decode cX3_spreadOne 111 = .ok (.iload 4, 2) := by decide +kernel
theorem dX3_spreadOne_113 : decode cX3_spreadOne 113 = .ok (.iload_n 2, 1) := by decide +kernel
theorem dX3_spreadOne_114 : decode cX3_spreadOne 114 = .ok (.invokevirtual 153, 3) := by decide +kernel
theorem dX3_spreadOne_117 : decode cX3_spreadOne 117 = .ok (.goto 93, 3) := by decide +kernel
theorem dX3_spreadOne_120 : decode cX3_spreadOne 120 = .ok (.iload_n 2, 1) := by decide +kernel
theorem dX3_spreadOne_121 : decode cX3_spreadOne 121 = .ok (.aload_n 0, 1) := by decide +kernel
theorem dX3_spreadOne_122 : decode cX3_spreadOne 122 = .ok (.getfield 14, 3) := by decide +kernel
theorem dX3_spreadOne_125 : decode cX3_spreadOne 125 = .ok (.iload_n 1, 1) := by decide +kernel
theorem dX3_spreadOne_126 : decode cX3_spreadOne 126 = .ok (.invokevirtual 137, 3) := by decide +kernel
theorem dX3_spreadOne_129 : decode cX3_spreadOne 129 = .ok (.if_icmp .lt 81, 3) := by decide +kernel
theorem dX3_spreadOne_132 : decode cX3_spreadOne 132 = .ok (.aload_n 0, 1) := by decide +kernel
theorem dX3_spreadOne_133 : decode cX3_spreadOne 133 = .ok (.iload 4, 2) := by decide +kernel
theorem dX3_spreadOne_135 : decode cX3_spreadOne 135 = .ok (.iload_n 2, 1) := by decide +kernel
theorem dX3_spreadOne_136 : decode cX3_spreadOne 136 = .ok (.iconst 1, 1) := by decide +kernel
theorem dX3_spreadOne_137 : decode cX3_spreadOne 137 = .ok (.isub, 1) := by decide +kernel
theorem dX3_spreadOne_138 : decode cX3_spreadOne 138 = .ok (.invokevirtual 153, 3) := by decide +kernel
theorem dX3_spreadOne_141 : decode cX3_spreadOne 141 = .ok (.goto 69, 3) := by decide +kernel
theorem dX3_spreadOne_144 : decode cX3_spreadOne 144 = .ok (.iconst 2, 1) := by decide +kernel
theorem dX3_spreadOne_145 : decode cX3_spreadOne 145 = .ok (.aload_n 0, 1) := by decide +kernel
theorem dX3_spreadOne_146 : decode cX3_spreadOne 146 = .ok (.getfield 14, 3) := by decide +kernel
theorem dX3_spreadOne_149 : decode cX3_spreadOne 149 = .ok (.iload_n 1, 1) := by decide +kernel
theorem dX3_spreadOne_150 : decode cX3_spreadOne 150 = .ok (.invokevirtual 167, 3) := by decide +kernel
theorem dX3_spreadOne_153 : decode cX3_spreadOne 153 = .ok (.imul, 1) := by decide +kernel
theorem dX3_spreadOne_154 : decode cX3_spreadOne 154 = .ok (.aload_n 0, 1) := by decide +kernel
theorem dX3_spreadOne_155 : decode cX3_spreadOne 155 = .ok (.getfield 14, 3) := by decide +kernel
theorem dX3_spreadOne_158 : decode cX3_spreadOne 158 = .ok (.iload_n 1, 1) := by decide +kernel
theorem dX3_spreadOne_159 : decode cX3_spreadOne 159 = .ok (.invokevirtual 123, 3) := by decide +kernel
theorem dX3_spreadOne_162 : decode cX3_spreadOne 162 = .ok (.iconst 2, 1) := by decide +kernel
theorem dX3_spreadOne_163 : decode cX3_spreadOne 163 = .ok (.if_icmp .ne 7, 3) := by decide +kernel
theorem dX3_spreadOne_166 : decode cX3_spreadOne 166 = .ok (.iconst 0, 1) := by decide +kernel
theorem dX3_spreadOne_167 : decode cX3_spreadOne 167 = .ok (.goto 4, 3) := by decide +kernel
theorem dX3_spreadOne_170 : decode cX3_spreadOne 170 = .ok (.iconst 1, 1) := by decide +kernel
theorem dX3_spreadOne_171 : decode cX3_spreadOne 171 = .ok (.iadd, 1) := by decide +kernel
theorem dX3_spreadOne_172 : decode cX3_spreadOne 172 = .ok (.istore 6, 2) := by decide +kernel
theorem dX3_spreadOne_174 : decode cX3_spreadOne 174 = .ok (.aload_n 0, 1) := by decide +kernel
theorem dX3_spreadOne_175 : decode cX3_spreadOne 175 = .ok (.iconst (-1), 1) := by decide +kernel
theorem dX3_spreadOne_176 : decode cX3_spreadOne 176 = .ok (.iload 6, 2) := by decide +kernel
theorem dX3_spreadOne_178 : decode cX3_spreadOne 178 = .ok (.isub, 1) := by decide +kernel
theorem dX3_spreadOne_179 : decode cX3_spreadOne 179 = .ok (.aload_n 0, 1) := by decide +kernel
theorem dX3_spreadOne_180 : decode cX3_spreadOne 180 = .ok (.iload 6, 2) := by decide +kernel
theorem dX3_spreadOne_182 : decode cX3_spreadOne 182 = .ok (.invokevirtual 170, 3) := by decide +kernel
theorem dX3_spreadOne_185 : decode cX3_spreadOne 185 = .ok (.invokevirtual 153, 3) := by decide +kernel
theorem dX3_spreadOne_188 : decode cX3_spreadOne 188 = .ok (.aload_n 0, 1) := by decide +kernel
theorem dX3_spreadOne_189 : decode cX3_spreadOne 189 = .ok (.iload 6, 2) := by decide +kernel
theorem dX3_spreadOne_191 : decode cX3_spreadOne 191 = .ok (.iload_n 3, 1) := by decide +kernel
theorem dX3_spreadOne_192 : decode cX3_spreadOne 192 = .ok (.invokevirtual 157, 3) := by decide +kernel
theorem dX3_spreadOne_195 : decode cX3_spreadOne 195 = .ok (.aload_n 0, 1) := by decide +kernel
theorem dX3_spreadOne_196 : decode cX3_spreadOne 196 = .ok (.iload 4, 2) := by decide +kernel
theorem dX3_spreadOne_198 : decode cX3_spreadOne 198 = .ok (.iload_n 2, 1) := by decide +kernel
theorem dX3_spreadOne_199 : decode cX3_spreadOne 199 = .ok (.invokevirtual 153, 3) := by decide +kernel
theorem dX3_spreadOne_202 : decode cX3_spreadOne 202 = .ok (.goto 8, 3) := by decide +kernel
theorem dX3_spreadOne_205 : decode cX3_spreadOne 205 = .ok (.aload_n 0, 1) := by decide +kernel
theorem dX3_spreadOne_206 : decode cX3_spreadOne 206 = .ok (.iload_n 1, 1) := by decide +kernel
theorem dX3_spreadOne_207 : decode cX3_spreadOne 207 = .ok (.invokevirtual 173, 3) := by decide +kernel
theorem dX3_spreadOne_210 : decode cX3_spreadOne 210 = .ok (.return_, 1) := by decide +kernel
theorem dX3_stopAt_0 : decode cX3_stopAt 0 = .ok (.iload_n 1, 1) := by decide +kernel
theorem dX3_stopAt_1 : decode cX3_stopAt 1 = .ok (.ifCond .lt 27, 3) := by decide +kernel
theorem dX3_stopAt_4 : decode cX3_stopAt 4 = .ok (.iload_n 1, 1) := by decide +kernel
theorem dX3_stopAt_5 : decode cX3_stopAt 5 = .ok (.sipush 512, 3) := by decide +kernel
theorem dX3_stopAt_8 : decode cX3_stopAt 8 = .ok (.if_icmp .ge 20, 3) := by decide +kernel
theorem dX3_stopAt_11 : decode cX3_stopAt 11 = .ok (.aload_n 0, 1) := by decide +kernel
theorem dX3_stopAt_12 : decode cX3_stopAt 12 = .ok (.getfield 47, 3) := by decide +kernel
theorem dX3_stopAt_15 : decode cX3_stopAt 15 = .ok (.iload_n 1, 1) := by decide +kernel
theorem dX3_stopAt_16 : decode cX3_stopAt 16 = .ok (.iaload, 1) := by decide +kernel
theorem dX3_stopAt_17 : decode cX3_stopAt 17 = .ok (.aload_n 0, 1) := by decide +kernel
theorem dX3_stopAt_18 : decode cX3_stopAt 18 = .ok (.getfield 81, 3) := by decide +kernel
theorem dX3_stopAt_21 : decode cX3_stopAt 21 = .ok (.if_icmp .ne 7, 3) := by decide +kernel
theorem dX3_stopAt_24 : decode cX3_stopAt 24 = .ok (.iconst 1, 1) := by decide +kernel
theorem dX3_stopAt_25 : decode cX3_stopAt 25 = .ok (.goto 4, 3) := by decide +kernel
theorem dX3_stopAt_28 : decode cX3_stopAt 28 = .ok (.iconst 0, 1) := by decide +kernel
theorem dX3_stopAt_29 : decode cX3_stopAt 29 = .ok (.istore_n 2, 1) := by decide +kernel
theorem dX3_stopAt_30 : decode cX3_stopAt 30 = .ok (.iload_n 2, 1) := by decide +kernel
theorem dX3_stopAt_31 : decode cX3_stopAt 31 = .ok (.ifCond .ne 82, 3) := by decide +kernel
theorem dX3_stopAt_34 : decode cX3_stopAt 34 = .ok (.iload_n 1, 1) := by decide +kernel
theorem dX3_stopAt_35 : decode cX3_stopAt 35 = .ok (.ifCond .lt 78, 3) := by decide +kernel
theorem dX3_stopAt_38 : decode cX3_stopAt 38 = .ok (.iload_n 1, 1) := by decide +kernel
theorem dX3_stopAt_39 : decode cX3_stopAt 39 = .ok (.sipush 512, 3) := by decide +kernel
theorem dX3_stopAt_42 : decode cX3_stopAt 42 = .ok (.if_icmp .ge 71, 3) := by decide +kernel
theorem dX3_stopAt_45 : decode cX3_stopAt 45 = .ok (.aload_n 0, 1) := by decide +kernel
theorem dX3_stopAt_46 : decode cX3_stopAt 46 = .ok (.getfield 78, 3) := by decide +kernel
theorem dX3_stopAt_49 : decode cX3_stopAt 49 = .ok (.ifCond .lt 64, 3) := by decide +kernel
theorem dX3_stopAt_52 : decode cX3_stopAt 52 = .ok (.aload_n 0, 1) := by decide +kernel
theorem dX3_stopAt_53 : decode cX3_stopAt 53 = .ok (.getfield 78, 3) := by decide +kernel
theorem dX3_stopAt_56 : decode cX3_stopAt 56 = .ok (.sipush 256, 3) := by decide +kernel
theorem dX3_stopAt_59 : decode cX3_stopAt 59 = .ok (.if_icmp .ge 54, 3) := by decide +kernel
theorem dX3_stopAt_62 : decode cX3_stopAt 62 = .ok (.aload_n 0, 1) := by decide +kernel
theorem dX3_stopAt_63 : decode cX3_stopAt 63 = .ok (.getfield 47, 3) := by decide +kernel
theorem dX3_stopAt_66 : decode cX3_stopAt 66 = .ok (.iload_n 1, 1) := by decide +kernel
theorem dX3_stopAt_67 : decode cX3_stopAt 67 = .ok (.aload_n 0, 1) := by decide +kernel
theorem dX3_stopAt_68 : decode cX3_stopAt 68 = .ok (.getfield 81, 3) := by decide +kernel
theorem dX3_stopAt_71 : decode cX3_stopAt 71 = .ok (.iastore, 1) := by decide +kernel
theorem dX3_stopAt_72 : decode cX3_stopAt 72 = .ok (.aload_n 0, 1) := by decide +kernel
theorem dX3_stopAt_73 : decode cX3_stopAt 73 = .ok (.getfield 38, 3) := by decide +kernel
theorem dX3_stopAt_76 : decode cX3_stopAt 76 = .ok (.aload_n 0, 1) := by decide +kernel
theorem dX3_stopAt_77 : decode cX3_stopAt 77 = .ok (.getfield 78, 3) := by decide +kernel
theorem dX3_stopAt_80 : decode cX3_stopAt 80 = .ok (.iload_n 1, 1) := by decide +kernel
theorem dX3_stopAt_81 : decode cX3_stopAt 81 = .ok (.iastore, 1) := by decide +kernel
theorem dX3_stopAt_82 : decode cX3_stopAt 82 = .ok (.aload_n 0, 1) := by decide +kernel
theorem dX3_stopAt_83 : decode cX3_stopAt 83 = .ok (.getfield 50, 3) := by decide +kernel
theorem dX3_stopAt_86 : decode cX3_stopAt 86 = .ok (.iconst 0, 1) := by decide +kernel
theorem dX3_stopAt_87 : decode cX3_stopAt 87 = .ok (.aload_n 0, 1) := by decide +kernel
theorem dX3_stopAt_88 : decode cX3_stopAt 88 = .ok (.getfield 41, 3) := by decide +kernel
theorem dX3_stopAt_91 : decode cX3_stopAt 91 = .ok (.aload_n 0, 1) := by decide +kernel
theorem dX3_stopAt_92 : decode cX3_stopAt 92 = .ok (.getfield 78, 3) := by decide +kernel
theorem dX3_stopAt_95 : decode cX3_stopAt 95 = .ok (.bipush 20, 2) := by decide +kernel
theorem dX3_stopAt_97 : decode cX3_stopAt 97 = .ok (.imul, 1) := by decide +kernel
theorem dX3_stopAt_98 : decode cX3_stopAt 98 = .ok (.bipush 20, 2) := by decide +kernel
theorem dX3_stopAt_100 : decode cX3_stopAt 100 = .ok (.invokestatic 117, 3) := by decide +kernel
theorem dX3_stopAt_103 : decode cX3_stopAt 103 = .ok (.aload_n 0, 1) := by decide +kernel
theorem dX3_stopAt_104 : decode cX3_stopAt 104 = .ok (.dup, 1) := by decide +kernel
theorem dX3_stopAt_105 : decode cX3_stopAt 105 = .ok (.getfield 78, 3) := by decide +kernel
theorem dX3_stopAt_108 : decode cX3_stopAt 108 = .ok (.iconst 1, 1) := by decide +kernel
theorem dX3_stopAt_109 : decode cX3_stopAt 109 = .ok (.iadd, 1) := by decide +kernel
theorem dX3_stopAt_110 : decode cX3_stopAt 110 = .ok (.putfield 78, 3) := by decide +kernel
theorem dX3_stopAt_113 : decode cX3_stopAt 113 = .ok (.return_, 1) := by decide +kernel
theorem dX3_tell_0 : decode cX3_tell 0 = .ok (.aload_n 1, 1) := by decide +kernel
theorem dX3_tell_1 : decode cX3_tell 1 = .ok (.invokevirtual 144, 3) := by decide +kernel
theorem dX3_tell_4 : decode cX3_tell 4 = .ok (.iconst 0, 1) := by decide +kernel
theorem dX3_tell_5 : decode cX3_tell 5 = .ok (.istore_n 2, 1) := by decide +kernel
theorem dX3_tell_6 : decode cX3_tell 6 = .ok (.iload_n 2, 1) := by decide +kernel
theorem dX3_tell_7 : decode cX3_tell 7 = .ok (.aload_n 0, 1) := by decide +kernel
theorem dX3_tell_8 : decode cX3_tell 8 = .ok (.getfield 75, 3) := by decide +kernel
theorem dX3_tell_11 : decode cX3_tell 11 = .ok (.if_icmp .ge 25, 3) := by decide +kernel
theorem dX3_tell_14 : decode cX3_tell 14 = .ok (.iload_n 2, 1) := by decide +kernel
theorem dX3_tell_15 : decode cX3_tell 15 = .ok (.bipush 20, 2) := by decide +kernel
theorem dX3_tell_17 : decode cX3_tell 17 = .ok (.if_icmp .ge 19, 3) := by decide +kernel
theorem dX3_tell_20 : decode cX3_tell 20 = .ok (.aload_n 1, 1) := by decide +kernel
theorem dX3_tell_21 : decode cX3_tell 21 = .ok (.aload_n 0, 1) := by decide +kernel
theorem dX3_tell_22 : decode cX3_tell 22 = .ok (.getfield 50, 3) := by decide +kernel
theorem dX3_tell_25 : decode cX3_tell 25 = .ok (.iload_n 2, 1) := by decide +kernel
theorem dX3_tell_26 : decode cX3_tell 26 = .ok (.iaload, 1) := by decide +kernel
theorem dX3_tell_27 : decode cX3_tell 27 = .ok (.invokevirtual 147, 3) := by decide +kernel
theorem dX3_tell_30 : decode cX3_tell 30 = .ok (.iinc 2 1, 3) := by decide +kernel
theorem dX3_tell_33 : decode cX3_tell 33 = .ok (.goto (-27), 3) := by decide +kernel
theorem dX3_tell_36 : decode cX3_tell 36 = .ok (.return_, 1) := by decide +kernel
theorem dX4_isGrouped_0 : decode cX4_isGrouped 0 = .ok (.iload_n 2, 1) := by decide +kernel
theorem dX4_isGrouped_1 : decode cX4_isGrouped 1 = .ok (.iconst (-1), 1) := by decide +kernel
theorem dX4_isGrouped_2 : decode cX4_isGrouped 2 = .ok (.if_icmp .ne 5, 3) := by decide +kernel
theorem dX4_isGrouped_5 : decode cX4_isGrouped 5 = .ok (.iconst 0, 1) := by decide +kernel
theorem dX4_isGrouped_6 : decode cX4_isGrouped 6 = .ok (.ireturn, 1) := by decide +kernel
theorem dX4_isGrouped_7 : decode cX4_isGrouped 7 = .ok (.iload_n 0, 1) := by decide +kernel
theorem dX4_isGrouped_8 : decode cX4_isGrouped 8 = .ok (.tableswitch 80 5 7 #[28, 45, 68], 28) := by decide +kernel
theorem dX4_isGrouped_36 : decode cX4_isGrouped 36 = .ok (.iload_n 1, 1) := by decide +kernel
theorem dX4_isGrouped_37 : decode cX4_isGrouped 37 = .ok (.iconst 5, 1) := by decide +kernel
theorem dX4_isGrouped_38 : decode cX4_isGrouped 38 = .ok (.if_icmp .eq 9, 3) := by decide +kernel
theorem dX4_isGrouped_41 : decode cX4_isGrouped 41 = .ok (.iload_n 1, 1) := by decide +kernel
theorem dX4_isGrouped_42 : decode cX4_isGrouped 42 = .ok (.bipush 7, 2) := by decide +kernel
theorem dX4_isGrouped_44 : decode cX4_isGrouped 44 = .ok (.if_icmp .ne 7, 3) := by decide +kernel
theorem dX4_isGrouped_47 : decode cX4_isGrouped 47 = .ok (.iconst 1, 1) := by decide +kernel
theorem dX4_isGrouped_48 : decode cX4_isGrouped 48 = .ok (.goto 4, 3) := by decide +kernel
theorem dX4_isGrouped_51 : decode cX4_isGrouped 51 = .ok (.iconst 0, 1) := by decide +kernel
theorem dX4_isGrouped_52 : decode cX4_isGrouped 52 = .ok (.ireturn, 1) := by decide +kernel
theorem dX4_isGrouped_53 : decode cX4_isGrouped 53 = .ok (.iload_n 1, 1) := by decide +kernel
theorem dX4_isGrouped_54 : decode cX4_isGrouped 54 = .ok (.iconst 5, 1) := by decide +kernel
theorem dX4_isGrouped_55 : decode cX4_isGrouped 55 = .ok (.if_icmp .eq 15, 3) := by decide +kernel
theorem dX4_isGrouped_58 : decode cX4_isGrouped 58 = .ok (.iload_n 1, 1) := by decide +kernel
theorem dX4_isGrouped_59 : decode cX4_isGrouped 59 = .ok (.bipush 7, 2) := by decide +kernel
theorem dX4_isGrouped_61 : decode cX4_isGrouped 61 = .ok (.if_icmp .eq 9, 3) := by decide +kernel
theorem dX4_isGrouped_64 : decode cX4_isGrouped 64 = .ok (.iload_n 1, 1) := by decide +kernel
theorem dX4_isGrouped_65 : decode cX4_isGrouped 65 = .ok (.bipush 6, 2) := by decide +kernel
theorem dX4_isGrouped_67 : decode cX4_isGrouped 67 = .ok (.if_icmp .ne 7, 3) := by decide +kernel
theorem dX4_isGrouped_70 : decode cX4_isGrouped 70 = .ok (.iconst 1, 1) := by decide +kernel
theorem dX4_isGrouped_71 : decode cX4_isGrouped 71 = .ok (.goto 4, 3) := by decide +kernel
theorem dX4_isGrouped_74 : decode cX4_isGrouped 74 = .ok (.iconst 0, 1) := by decide +kernel
theorem dX4_isGrouped_75 : decode cX4_isGrouped 75 = .ok (.ireturn, 1) := by decide +kernel
theorem dX4_isGrouped_76 : decode cX4_isGrouped 76 = .ok (.iload_n 1, 1) := by decide +kernel
theorem dX4_isGrouped_77 : decode cX4_isGrouped 77 = .ok (.bipush 7, 2) := by decide +kernel
theorem dX4_isGrouped_79 : decode cX4_isGrouped 79 = .ok (.if_icmp .ne 7, 3) := by decide +kernel
theorem dX4_isGrouped_82 : decode cX4_isGrouped 82 = .ok (.iconst 1, 1) := by decide +kernel
theorem dX4_isGrouped_83 : decode cX4_isGrouped 83 = .ok (.goto 4, 3) := by decide +kernel
theorem dX4_isGrouped_86 : decode cX4_isGrouped 86 = .ok (.iconst 0, 1) := by decide +kernel
theorem dX4_isGrouped_87 : decode cX4_isGrouped 87 = .ok (.ireturn, 1) := by decide +kernel
theorem dX4_isGrouped_88 : decode cX4_isGrouped 88 = .ok (.iconst 0, 1) := by decide +kernel
theorem dX4_isGrouped_89 : decode cX4_isGrouped 89 = .ok (.ireturn, 1) := by decide +kernel
theorem dX4_isMark_0 : decode cX4_isMark 0 = .ok (.iload_n 0, 1) := by decide +kernel
theorem dX4_isMark_1 : decode cX4_isMark 1 = .ok (.lookupswitch 77 #[(33, 75), (35, 75), (37, 75), (58, 75), (60, 75), (61, 75), (64, 75), (126, 75)], 75) := by decide +kernel
theorem dX4_isMark_76 : decode cX4_isMark 76 = .ok (.iconst 1, 1) := by decide +kernel
theorem dX4_isMark_77 : decode cX4_isMark 77 = .ok (.ireturn, 1) := by decide +kernel
theorem dX4_isMark_78 : decode cX4_isMark 78 = .ok (.iconst 0, 1) := by decide +kernel
theorem dX4_isMark_79 : decode cX4_isMark 79 = .ok (.ireturn, 1) := by decide +kernel
theorem dX4_markOfLook_0 : decode cX4_markOfLook 0 = .ok (.iload_n 0, 1) := by decide +kernel
theorem dX4_markOfLook_1 : decode cX4_markOfLook 1 = .ok (.tableswitch 36 0 2 #[27, 30, 33], 27) := by decide +kernel
theorem dX4_markOfLook_28 : decode cX4_markOfLook 28 = .ok (.bipush 61, 2) := by decide +kernel
theorem dX4_markOfLook_30 : decode cX4_markOfLook 30 = .ok (.ireturn, 1) := by decide +kernel
theorem dX4_markOfLook_31 : decode cX4_markOfLook 31 = .ok (.bipush 33, 2) := by decide +kernel
theorem dX4_markOfLook_33 : decode cX4_markOfLook 33 = .ok (.ireturn, 1) := by decide +kernel
theorem dX4_markOfLook_34 : decode cX4_markOfLook 34 = .ok (.bipush 60, 2) := by decide +kernel
theorem dX4_markOfLook_36 : decode cX4_markOfLook 36 = .ok (.ireturn, 1) := by decide +kernel
theorem dX4_markOfLook_37 : decode cX4_markOfLook 37 = .ok (.bipush 126, 2) := by decide +kernel
theorem dX4_markOfLook_39 : decode cX4_markOfLook 39 = .ok (.ireturn, 1) := by decide +kernel
theorem dX4_write_0 : decode cX4_write 0 = .ok (.aload_n 0, 1) := by decide +kernel
theorem dX4_write_1 : decode cX4_write 1 = .ok (.aload_n 2, 1) := by decide +kernel
theorem dX4_write_2 : decode cX4_write 2 = .ok (.putfield 14, 3) := by decide +kernel
theorem dX4_write_5 : decode cX4_write 5 = .ok (.aload_n 0, 1) := by decide +kernel
theorem dX4_write_6 : decode cX4_write 6 = .ok (.getfield 14, 3) := by decide +kernel
theorem dX4_write_9 : decode cX4_write 9 = .ok (.invokevirtual 20, 3) := by decide +kernel
theorem dX4_write_12 : decode cX4_write 12 = .ok (.aload_n 0, 1) := by decide +kernel
theorem dX4_write_13 : decode cX4_write 13 = .ok (.iconst (-1), 1) := by decide +kernel
theorem dX4_write_14 : decode cX4_write 14 = .ok (.putfield 23, 3) := by decide +kernel
theorem dX4_write_17 : decode cX4_write 17 = .ok (.aload_n 0, 1) := by decide +kernel
theorem dX4_write_18 : decode cX4_write 18 = .ok (.aload_n 1, 1) := by decide +kernel
theorem dX4_write_19 : decode cX4_write 19 = .ok (.iconst 0, 1) := by decide +kernel
theorem dX4_write_20 : decode cX4_write 20 = .ok (.iconst 0, 1) := by decide +kernel
theorem dX4_write_21 : decode cX4_write 21 = .ok (.invokevirtual 27, 3) := by decide +kernel
theorem dX4_write_24 : decode cX4_write 24 = .ok (.return_, 1) := by decide +kernel
theorem dX4_writeClosing_0 : decode cX4_writeClosing 0 = .ok (.aload_n 1, 1) := by decide +kernel
theorem dX4_writeClosing_1 : decode cX4_writeClosing 1 = .ok (.iload_n 2, 1) := by decide +kernel
theorem dX4_writeClosing_2 : decode cX4_writeClosing 2 = .ok (.invokevirtual 31, 3) := by decide +kernel
theorem dX4_writeClosing_5 : decode cX4_writeClosing 5 = .ok (.bipush 7, 2) := by decide +kernel
theorem dX4_writeClosing_7 : decode cX4_writeClosing 7 = .ok (.if_icmp .ne 51, 3) := by decide +kernel
theorem dX4_writeClosing_10 : decode cX4_writeClosing 10 = .ok (.aload_n 0, 1) := by decide +kernel
theorem dX4_writeClosing_11 : decode cX4_writeClosing 11 = .ok (.aload_n 1, 1) := by decide +kernel
theorem dX4_writeClosing_12 : decode cX4_writeClosing 12 = .ok (.iload_n 2, 1) := by decide +kernel
theorem dX4_writeClosing_13 : decode cX4_writeClosing 13 = .ok (.invokevirtual 104, 3) := by decide +kernel
theorem dX4_writeClosing_16 : decode cX4_writeClosing 16 = .ok (.aload_n 1, 1) := by decide +kernel
theorem dX4_writeClosing_17 : decode cX4_writeClosing 17 = .ok (.iload_n 2, 1) := by decide +kernel
theorem dX4_writeClosing_18 : decode cX4_writeClosing 18 = .ok (.invokevirtual 110, 3) := by decide +kernel
theorem dX4_writeClosing_21 : decode cX4_writeClosing 21 = .ok (.invokevirtual 113, 3) := by decide +kernel
theorem dX4_writeClosing_24 : decode cX4_writeClosing 24 = .ok (.aload_n 1, 1) := by decide +kernel
theorem dX4_writeClosing_25 : decode cX4_writeClosing 25 = .ok (.iload_n 2, 1) := by decide +kernel
theorem dX4_writeClosing_26 : decode cX4_writeClosing 26 = .ok (.invokevirtual 63, 3) := by decide +kernel
theorem dX4_writeClosing_29 : decode cX4_writeClosing 29 = .ok (.ifCond .eq 48, 3) := by decide +kernel
theorem dX4_writeClosing_32 : decode cX4_writeClosing 32 = .ok (.aload_n 0, 1) := by decide +kernel
theorem dX4_writeClosing_33 : decode cX4_writeClosing 33 = .ok (.getfield 14, 3) := by decide +kernel
theorem dX4_writeClosing_36 : decode cX4_writeClosing 36 = .ok (.aload_n 1, 1) := by decide +kernel
theorem dX4_writeClosing_37 : decode cX4_writeClosing 37 = .ok (.iload_n 2, 1) := by decide +kernel
theorem dX4_writeClosing_38 : decode cX4_writeClosing 38 = .ok (.invokevirtual 63, 3) := by decide +kernel
theorem dX4_writeClosing_41 : decode cX4_writeClosing 41 = .ok (.iconst 1, 1) := by decide +kernel
theorem dX4_writeClosing_42 : decode cX4_writeClosing 42 = .ok (.if_icmp .ne 8, 3) := by decide +kernel
theorem dX4_writeClosing_45 : decode cX4_writeClosing 45 = .ok (.bipush 63, 2) := by decide +kernel
theorem dX4_writeClosing_47 : decode cX4_writeClosing 47 = .ok (.goto 5, 3) := by decide +kernel
theorem dX4_writeClosing_50 : decode cX4_writeClosing 50 = .ok (.bipush 43, 2) := by decide +kernel
theorem dX4_writeClosing_52 : decode cX4_writeClosing 52 = .ok (.invokevirtual 44, 3) := by decide +kernel
theorem dX4_writeClosing_55 : decode cX4_writeClosing 55 = .ok (.goto 22, 3) := by decide +kernel
theorem dX4_writeClosing_58 : decode cX4_writeClosing 58 = .ok (.aload_n 1, 1) := by decide +kernel
theorem dX4_writeClosing_59 : decode cX4_writeClosing 59 = .ok (.iload_n 2, 1) := by decide +kernel
theorem dX4_writeClosing_60 : decode cX4_writeClosing 60 = .ok (.invokevirtual 31, 3) := by decide +kernel
theorem dX4_writeClosing_63 : decode cX4_writeClosing 63 = .ok (.bipush 8, 2) := by decide +kernel
theorem dX4_writeClosing_65 : decode cX4_writeClosing 65 = .ok (.if_icmp .lt 12, 3) := by decide +kernel
theorem dX4_writeClosing_68 : decode cX4_writeClosing 68 = .ok (.aload_n 0, 1) := by decide +kernel
theorem dX4_writeClosing_69 : decode cX4_writeClosing 69 = .ok (.getfield 14, 3) := by decide +kernel
theorem dX4_writeClosing_72 : decode cX4_writeClosing 72 = .ok (.bipush 41, 2) := by decide +kernel
theorem dX4_writeClosing_74 : decode cX4_writeClosing 74 = .ok (.invokevirtual 44, 3) := by decide +kernel
theorem dX4_writeClosing_77 : decode cX4_writeClosing 77 = .ok (.return_, 1) := by decide +kernel
theorem dX4_writeCode_0 : decode cX4_writeCode 0 = .ok (.aload_n 0, 1) := by decide +kernel
theorem dX4_writeCode_1 : decode cX4_writeCode 1 = .ok (.getfield 14, 3) := by decide +kernel
theorem dX4_writeCode_4 : decode cX4_writeCode 4 = .ok (.bipush 92, 2) := by decide +kernel
theorem dX4_writeCode_6 : decode cX4_writeCode 6 = .ok (.invokevirtual 44, 3) := by decide +kernel
theorem dX4_writeCode_9 : decode cX4_writeCode 9 = .ok (.aload_n 0, 1) := by decide +kernel
theorem dX4_writeCode_10 : decode cX4_writeCode 10 = .ok (.getfield 14, 3) := by decide +kernel
theorem dX4_writeCode_13 : decode cX4_writeCode 13 = .ok (.bipush 120, 2) := by decide +kernel
theorem dX4_writeCode_15 : decode cX4_writeCode 15 = .ok (.invokevirtual 44, 3) := by decide +kernel
theorem dX4_writeCode_18 : decode cX4_writeCode 18 = .ok (.bipush 12, 2) := by decide +kernel
theorem dX4_writeCode_20 : decode cX4_writeCode 20 = .ok (.istore_n 2, 1) := by decide +kernel
theorem dX4_writeCode_21 : decode cX4_writeCode 21 = .ok (.iload_n 2, 1) := by decide +kernel
theorem dX4_writeCode_22 : decode cX4_writeCode 22 = .ok (.ifCond .lt 43, 3) := by decide +kernel
theorem dX4_writeCode_25 : decode cX4_writeCode 25 = .ok (.iload_n 1, 1) := by decide +kernel
theorem dX4_writeCode_26 : decode cX4_writeCode 26 = .ok (.iload_n 2, 1) := by decide +kernel
theorem dX4_writeCode_27 : decode cX4_writeCode 27 = .ok (.ishr, 1) := by decide +kernel
theorem dX4_writeCode_28 : decode cX4_writeCode 28 = .ok (.bipush 15, 2) := by decide +kernel
theorem dX4_writeCode_30 : decode cX4_writeCode 30 = .ok (.iand, 1) := by decide +kernel
theorem dX4_writeCode_31 : decode cX4_writeCode 31 = .ok (.istore_n 3, 1) := by decide +kernel
theorem dX4_writeCode_32 : decode cX4_writeCode 32 = .ok (.aload_n 0, 1) := by decide +kernel
theorem dX4_writeCode_33 : decode cX4_writeCode 33 = .ok (.getfield 14, 3) := by decide +kernel
theorem dX4_writeCode_36 : decode cX4_writeCode 36 = .ok (.iload_n 3, 1) := by decide +kernel
theorem dX4_writeCode_37 : decode cX4_writeCode 37 = .ok (.bipush 10, 2) := by decide +kernel
theorem dX4_writeCode_39 : decode cX4_writeCode 39 = .ok (.if_icmp .ge 10, 3) := by decide +kernel
theorem dX4_writeCode_42 : decode cX4_writeCode 42 = .ok (.bipush 48, 2) := by decide +kernel
theorem dX4_writeCode_44 : decode cX4_writeCode 44 = .ok (.iload_n 3, 1) := by decide +kernel
theorem dX4_writeCode_45 : decode cX4_writeCode 45 = .ok (.iadd, 1) := by decide +kernel
theorem dX4_writeCode_46 : decode cX4_writeCode 46 = .ok (.goto 10, 3) := by decide +kernel
theorem dX4_writeCode_49 : decode cX4_writeCode 49 = .ok (.bipush 97, 2) := by decide +kernel
theorem dX4_writeCode_51 : decode cX4_writeCode 51 = .ok (.iload_n 3, 1) := by decide +kernel
theorem dX4_writeCode_52 : decode cX4_writeCode 52 = .ok (.iadd, 1) := by decide +kernel
theorem dX4_writeCode_53 : decode cX4_writeCode 53 = .ok (.bipush 10, 2) := by decide +kernel
theorem dX4_writeCode_55 : decode cX4_writeCode 55 = .ok (.isub, 1) := by decide +kernel
theorem dX4_writeCode_56 : decode cX4_writeCode 56 = .ok (.invokevirtual 44, 3) := by decide +kernel
theorem dX4_writeCode_59 : decode cX4_writeCode 59 = .ok (.iinc 2 (-4), 3) := by decide +kernel
theorem dX4_writeCode_62 : decode cX4_writeCode 62 = .ok (.goto (-41), 3) := by decide +kernel
theorem dX4_writeCode_65 : decode cX4_writeCode 65 = .ok (.return_, 1) := by decide +kernel
theorem dX4_writeEdge_0 : decode cX4_writeEdge 0 = .ok (.iload_n 1, 1) := by decide +kernel
theorem dX4_writeEdge_1 : decode cX4_writeEdge 1 = .ok (.iconst 2, 1) := by decide +kernel
theorem dX4_writeEdge_2 : decode cX4_writeEdge 2 = .ok (.if_icmp .ge 24, 3) := by decide +kernel
theorem dX4_writeEdge_5 : decode cX4_writeEdge 5 = .ok (.aload_n 0, 1) := by decide +kernel
theorem dX4_writeEdge_6 : decode cX4_writeEdge 6 = .ok (.getfield 14, 3) := by decide +kernel
theorem dX4_writeEdge_9 : decode cX4_writeEdge 9 = .ok (.iload_n 1, 1) := by decide +kernel
theorem dX4_writeEdge_10 : decode cX4_writeEdge 10 = .ok (.ifCond .ne 8, 3) := by decide +kernel
theorem dX4_writeEdge_13 : decode cX4_writeEdge 13 = .ok (.bipush 94, 2) := by decide +kernel
theorem dX4_writeEdge_15 : decode cX4_writeEdge 15 = .ok (.goto 5, 3) := by decide +kernel
theorem dX4_writeEdge_18 : decode cX4_writeEdge 18 = .ok (.bipush 36, 2) := by decide +kernel
theorem dX4_writeEdge_20 : decode cX4_writeEdge 20 = .ok (.invokevirtual 44, 3) := by decide +kernel
theorem dX4_writeEdge_23 : decode cX4_writeEdge 23 = .ok (.goto 31, 3) := by decide +kernel
theorem dX4_writeEdge_26 : decode cX4_writeEdge 26 = .ok (.aload_n 0, 1) := by decide +kernel
theorem dX4_writeEdge_27 : decode cX4_writeEdge 27 = .ok (.getfield 14, 3) := by decide +kernel
theorem dX4_writeEdge_30 : decode cX4_writeEdge 30 = .ok (.bipush 92, 2) := by decide +kernel
theorem dX4_writeEdge_32 : decode cX4_writeEdge 32 = .ok (.invokevirtual 44, 3) := by decide +kernel
theorem dX4_writeEdge_35 : decode cX4_writeEdge 35 = .ok (.aload_n 0, 1) := by decide +kernel
theorem dX4_writeEdge_36 : decode cX4_writeEdge 36 = .ok (.getfield 14, 3) := by decide +kernel
theorem dX4_writeEdge_39 : decode cX4_writeEdge 39 = .ok (.iload_n 1, 1) := by decide +kernel
theorem dX4_writeEdge_40 : decode cX4_writeEdge 40 = .ok (.iconst 2, 1) := by decide +kernel
theorem dX4_writeEdge_41 : decode cX4_writeEdge 41 = .ok (.if_icmp .ne 8, 3) := by decide +kernel
theorem dX4_writeEdge_44 : decode cX4_writeEdge 44 = .ok (.bipush 98, 2) := by decide +kernel
theorem dX4_writeEdge_46 : decode cX4_writeEdge 46 = .ok (.goto 5, 3) := by decide +kernel
theorem dX4_writeEdge_49 : decode cX4_writeEdge 49 = .ok (.bipush 66, 2) := by decide +kernel
theorem dX4_writeEdge_51 : decode cX4_writeEdge 51 = .ok (.invokevirtual 44, 3) := by decide +kernel
theorem dX4_writeEdge_54 : decode cX4_writeEdge 54 = .ok (.return_, 1) := by decide +kernel
theorem dX4_writeLeaf_0 : decode cX4_writeLeaf 0 = .ok (.aload_n 1, 1) := by decide +kernel
theorem dX4_writeLeaf_1 : decode cX4_writeLeaf 1 = .ok (.iload_n 2, 1) := by decide +kernel
theorem dX4_writeLeaf_2 : decode cX4_writeLeaf 2 = .ok (.invokevirtual 63, 3) := by decide +kernel
theorem dX4_writeLeaf_5 : decode cX4_writeLeaf 5 = .ok (.istore_n 3, 1) := by decide +kernel
theorem dX4_writeLeaf_6 : decode cX4_writeLeaf 6 = .ok (.aload_n 1, 1) := by decide +kernel
theorem dX4_writeLeaf_7 : decode cX4_writeLeaf 7 = .ok (.iload_n 2, 1) := by decide +kernel
theorem dX4_writeLeaf_8 : decode cX4_writeLeaf 8 = .ok (.invokevirtual 31, 3) := by decide +kernel
theorem dX4_writeLeaf_11 : decode cX4_writeLeaf 11 = .ok (.tableswitch 66 0 3 #[29, 37, 49, 58], 29) := by decide +kernel
theorem dX4_writeLeaf_40 : decode cX4_writeLeaf 40 = .ok (.aload_n 0, 1) := by decide +kernel
theorem dX4_writeLeaf_41 : decode cX4_writeLeaf 41 = .ok (.iload_n 3, 1) := by decide +kernel
theorem dX4_writeLeaf_42 : decode cX4_writeLeaf 42 = .ok (.invokevirtual 66, 3) := by decide +kernel
theorem dX4_writeLeaf_45 : decode cX4_writeLeaf 45 = .ok (.goto 52, 3) := by decide +kernel
theorem dX4_writeLeaf_48 : decode cX4_writeLeaf 48 = .ok (.aload_n 0, 1) := by decide +kernel
theorem dX4_writeLeaf_49 : decode cX4_writeLeaf 49 = .ok (.getfield 14, 3) := by decide +kernel
theorem dX4_writeLeaf_52 : decode cX4_writeLeaf 52 = .ok (.bipush 46, 2) := by decide +kernel
theorem dX4_writeLeaf_54 : decode cX4_writeLeaf 54 = .ok (.invokevirtual 44, 3) := by decide +kernel
theorem dX4_writeLeaf_57 : decode cX4_writeLeaf 57 = .ok (.goto 40, 3) := by decide +kernel
theorem dX4_writeLeaf_60 : decode cX4_writeLeaf 60 = .ok (.aload_n 0, 1) := by decide +kernel
theorem dX4_writeLeaf_61 : decode cX4_writeLeaf 61 = .ok (.aload_n 1, 1) := by decide +kernel
theorem dX4_writeLeaf_62 : decode cX4_writeLeaf 62 = .ok (.iload_n 2, 1) := by decide +kernel
theorem dX4_writeLeaf_63 : decode cX4_writeLeaf 63 = .ok (.invokevirtual 69, 3) := by decide +kernel
theorem dX4_writeLeaf_66 : decode cX4_writeLeaf 66 = .ok (.goto 31, 3) := by decide +kernel
theorem dX4_writeLeaf_69 : decode cX4_writeLeaf 69 = .ok (.aload_n 0, 1) := by decide +kernel
theorem dX4_writeLeaf_70 : decode cX4_writeLeaf 70 = .ok (.iload_n 3, 1) := by decide +kernel
theorem dX4_writeLeaf_71 : decode cX4_writeLeaf 71 = .ok (.invokevirtual 72, 3) := by decide +kernel
theorem dX4_writeLeaf_74 : decode cX4_writeLeaf 74 = .ok (.goto 23, 3) := by decide +kernel
theorem dX4_writeLeaf_77 : decode cX4_writeLeaf 77 = .ok (.aload_n 0, 1) := by decide +kernel
theorem dX4_writeLeaf_78 : decode cX4_writeLeaf 78 = .ok (.getfield 14, 3) := by decide +kernel
theorem dX4_writeLeaf_81 : decode cX4_writeLeaf 81 = .ok (.bipush 92, 2) := by decide +kernel
theorem dX4_writeLeaf_83 : decode cX4_writeLeaf 83 = .ok (.invokevirtual 44, 3) := by decide +kernel
theorem dX4_writeLeaf_86 : decode cX4_writeLeaf 86 = .ok (.aload_n 0, 1) := by decide +kernel
theorem dX4_writeLeaf_87 : decode cX4_writeLeaf 87 = .ok (.getfield 14, 3) := by decide +kernel
theorem dX4_writeLeaf_90 : decode cX4_writeLeaf 90 = .ok (.bipush 48, 2) := by decide +kernel
theorem dX4_writeLeaf_92 : decode cX4_writeLeaf 92 = .ok (.iload_n 3, 1) := by decide +kernel
theorem dX4_writeLeaf_93 : decode cX4_writeLeaf 93 = .ok (.iadd, 1) := by decide +kernel
theorem dX4_writeLeaf_94 : decode cX4_writeLeaf 94 = .ok (.invokevirtual 44, 3) := by decide +kernel
theorem dX4_writeLeaf_97 : decode cX4_writeLeaf 97 = .ok (.return_, 1) := by decide +kernel
theorem dX4_writeLoop_0 : decode cX4_writeLoop 0 = .ok (.iload_n 2, 1) := by decide +kernel
theorem dX4_writeLoop_1 : decode cX4_writeLoop 1 = .ok (.iconst (-1), 1) := by decide +kernel
theorem dX4_writeLoop_2 : decode cX4_writeLoop 2 = .ok (.if_icmp .ne 27, 3) := by decide +kernel
theorem dX4_writeLoop_5 : decode cX4_writeLoop 5 = .ok (.iload_n 1, 1) := by decide +kernel
theorem dX4_writeLoop_6 : decode cX4_writeLoop 6 = .ok (.iconst 1, 1) := by decide +kernel
theorem dX4_writeLoop_7 : decode cX4_writeLoop 7 = .ok (.if_icmp .gt 22, 3) := by decide +kernel
theorem dX4_writeLoop_10 : decode cX4_writeLoop 10 = .ok (.aload_n 0, 1) := by decide +kernel
theorem dX4_writeLoop_11 : decode cX4_writeLoop 11 = .ok (.getfield 14, 3) := by decide +kernel
theorem dX4_writeLoop_14 : decode cX4_writeLoop 14 = .ok (.iload_n 1, 1) := by decide +kernel
theorem dX4_writeLoop_15 : decode cX4_writeLoop 15 = .ok (.ifCond .ne 8, 3) := by decide +kernel
theorem dX4_writeLoop_18 : decode cX4_writeLoop 18 = .ok (.bipush 42, 2) := by decide +kernel
theorem dX4_writeLoop_20 : decode cX4_writeLoop 20 = .ok (.goto 5, 3) := by decide +kernel
theorem dX4_writeLoop_23 : decode cX4_writeLoop 23 = .ok (.bipush 43, 2) := by decide +kernel
theorem dX4_writeLoop_25 : decode cX4_writeLoop 25 = .ok (.invokevirtual 44, 3) := by decide +kernel
theorem dX4_writeLoop_28 : decode cX4_writeLoop 28 = .ok (.return_, 1) := by decide +kernel
theorem dX4_writeLoop_29 : decode cX4_writeLoop 29 = .ok (.iload_n 1, 1) := by decide +kernel
theorem dX4_writeLoop_30 : decode cX4_writeLoop 30 = .ok (.ifCond .ne 18, 3) := by decide +kernel
theorem dX4_writeLoop_33 : decode cX4_writeLoop 33 = .ok (.iload_n 2, 1) := by decide +kernel
theorem dX4_writeLoop_34 : decode cX4_writeLoop 34 = .ok (.iconst 1, 1) := by decide +kernel
theorem dX4_writeLoop_35 : decode cX4_writeLoop 35 = .ok (.if_icmp .ne 13, 3) := by decide +kernel
theorem dX4_writeLoop_38 : decode cX4_writeLoop 38 = .ok (.aload_n 0, 1) := by decide +kernel
theorem dX4_writeLoop_39 : decode cX4_writeLoop 39 = .ok (.getfield 14, 3) := by decide +kernel
theorem dX4_writeLoop_42 : decode cX4_writeLoop 42 = .ok (.bipush 63, 2) := by decide +kernel
theorem dX4_writeLoop_44 : decode cX4_writeLoop 44 = .ok (.invokevirtual 44, 3) := by decide +kernel
theorem dX4_writeLoop_47 : decode cX4_writeLoop 47 = .ok (.return_, 1) := by decide +kernel
theorem dX4_writeLoop_48 : decode cX4_writeLoop 48 = .ok (.aload_n 0, 1) := by decide +kernel
theorem dX4_writeLoop_49 : decode cX4_writeLoop 49 = .ok (.getfield 14, 3) := by decide +kernel
theorem dX4_writeLoop_52 : decode cX4_writeLoop 52 = .ok (.bipush 123, 2) := by decide +kernel
theorem dX4_writeLoop_54 : decode cX4_writeLoop 54 = .ok (.invokevirtual 44, 3) := by decide +kernel
theorem dX4_writeLoop_57 : decode cX4_writeLoop 57 = .ok (.aload_n 0, 1) := by decide +kernel
theorem dX4_writeLoop_58 : decode cX4_writeLoop 58 = .ok (.iload_n 1, 1) := by decide +kernel
theorem dX4_writeLoop_59 : decode cX4_writeLoop 59 = .ok (.invokevirtual 117, 3) := by decide +kernel
theorem dX4_writeLoop_62 : decode cX4_writeLoop 62 = .ok (.iload_n 2, 1) := by decide +kernel
theorem dX4_writeLoop_63 : decode cX4_writeLoop 63 = .ok (.iload_n 1, 1) := by decide +kernel
theorem dX4_writeLoop_64 : decode cX4_writeLoop 64 = .ok (.if_icmp .eq 12, 3) := by decide +kernel
theorem dX4_writeLoop_67 : decode cX4_writeLoop 67 = .ok (.aload_n 0, 1) := by decide +kernel
theorem dX4_writeLoop_68 : decode cX4_writeLoop 68 = .ok (.getfield 14, 3) := by decide +kernel
theorem dX4_writeLoop_71 : decode cX4_writeLoop 71 = .ok (.bipush 44, 2) := by decide +kernel
theorem dX4_writeLoop_73 : decode cX4_writeLoop 73 = .ok (.invokevirtual 44, 3) := by decide +kernel
theorem dX4_writeLoop_76 : decode cX4_writeLoop 76 = .ok (.iload_n 2, 1) := by decide +kernel
theorem dX4_writeLoop_77 : decode cX4_writeLoop 77 = .ok (.iload_n 1, 1) := by decide +kernel
theorem dX4_writeLoop_78 : decode cX4_writeLoop 78 = .ok (.if_icmp .eq 13, 3) := by decide +kernel
theorem dX4_writeLoop_81 : decode cX4_writeLoop 81 = .ok (.iload_n 2, 1) := by decide +kernel
theorem dX4_writeLoop_82 : decode cX4_writeLoop 82 = .ok (.iconst (-1), 1) := by decide +kernel
theorem dX4_writeLoop_83 : decode cX4_writeLoop 83 = .ok (.if_icmp .eq 8, 3) := by decide +kernel
theorem dX4_writeLoop_86 : decode cX4_writeLoop 86 = .ok (.aload_n 0, 1) := by decide +kernel
theorem dX4_writeLoop_87 : decode cX4_writeLoop 87 = .ok (.iload_n 2, 1) := by decide +kernel
theorem dX4_writeLoop_88 : decode cX4_writeLoop 88 = .ok (.invokevirtual 117, 3) := by decide +kernel
theorem dX4_writeLoop_91 : decode cX4_writeLoop 91 = .ok (.aload_n 0, 1) := by decide +kernel
theorem dX4_writeLoop_92 : decode cX4_writeLoop 92 = .ok (.getfield 14, 3) := by decide +kernel
theorem dX4_writeLoop_95 : decode cX4_writeLoop 95 = .ok (.bipush 125, 2) := by decide +kernel
theorem dX4_writeLoop_97 : decode cX4_writeLoop 97 = .ok (.invokevirtual 44, 3) := by decide +kernel
theorem dX4_writeLoop_100 : decode cX4_writeLoop 100 = .ok (.return_, 1) := by decide +kernel
theorem dX4_writeMember_0 : decode cX4_writeMember 0 = .ok (.iload_n 1, 1) := by decide +kernel
theorem dX4_writeMember_1 : decode cX4_writeMember 1 = .ok (.invokestatic 75, 3) := by decide +kernel
theorem dX4_writeMember_4 : decode cX4_writeMember 4 = .ok (.ifCond .ne 9, 3) := by decide +kernel
theorem dX4_writeMember_7 : decode cX4_writeMember 7 = .ok (.aload_n 0, 1) := by decide +kernel
theorem dX4_writeMember_8 : decode cX4_writeMember 8 = .ok (.iload_n 1, 1) := by decide +kernel
theorem dX4_writeMember_9 : decode cX4_writeMember 9 = .ok (.invokevirtual 85, 3) := by decide +kernel
theorem dX4_writeMember_12 : decode cX4_writeMember 12 = .ok (.return_, 1) := by decide +kernel
theorem dX4_writeMember_13 : decode cX4_writeMember 13 = .ok (.iload_n 1, 1) := by decide +kernel
theorem dX4_writeMember_14 : decode cX4_writeMember 14 = .ok (.bipush 91, 2) := by decide +kernel
theorem dX4_writeMember_16 : decode cX4_writeMember 16 = .ok (.if_icmp .eq 27, 3) := by decide +kernel
theorem dX4_writeMember_19 : decode cX4_writeMember 19 = .ok (.iload_n 1, 1) := by decide +kernel
theorem dX4_writeMember_20 : decode cX4_writeMember 20 = .ok (.bipush 93, 2) := by decide +kernel
theorem dX4_writeMember_22 : decode cX4_writeMember 22 = .ok (.if_icmp .eq 21, 3) := by decide +kernel
theorem dX4_writeMember_25 : decode cX4_writeMember 25 = .ok (.iload_n 1, 1) := by decide +kernel
theorem dX4_writeMember_26 : decode cX4_writeMember 26 = .ok (.bipush 94, 2) := by decide +kernel
theorem dX4_writeMember_28 : decode cX4_writeMember 28 = .ok (.if_icmp .eq 15, 3) := by decide +kernel
theorem dX4_writeMember_31 : decode cX4_writeMember 31 = .ok (.iload_n 1, 1) := by decide +kernel
theorem dX4_writeMember_32 : decode cX4_writeMember 32 = .ok (.bipush 45, 2) := by decide +kernel
theorem dX4_writeMember_34 : decode cX4_writeMember 34 = .ok (.if_icmp .eq 9, 3) := by decide +kernel
theorem dX4_writeMember_37 : decode cX4_writeMember 37 = .ok (.iload_n 1, 1) := by decide +kernel
theorem dX4_writeMember_38 : decode cX4_writeMember 38 = .ok (.bipush 92, 2) := by decide +kernel
theorem dX4_writeMember_40 : decode cX4_writeMember 40 = .ok (.if_icmp .ne 12, 3) := by decide +kernel
theorem dX4_writeMember_43 : decode cX4_writeMember 43 = .ok (.aload_n 0, 1) := by decide +kernel
theorem dX4_writeMember_44 : decode cX4_writeMember 44 = .ok (.getfield 14, 3) := by decide +kernel
theorem dX4_writeMember_47 : decode cX4_writeMember 47 = .ok (.bipush 92, 2) := by decide +kernel
theorem dX4_writeMember_49 : decode cX4_writeMember 49 = .ok (.invokevirtual 44, 3) := by decide +kernel
theorem dX4_writeMember_52 : decode cX4_writeMember 52 = .ok (.aload_n 0, 1) := by decide +kernel
theorem dX4_writeMember_53 : decode cX4_writeMember 53 = .ok (.getfield 14, 3) := by decide +kernel
theorem dX4_writeMember_56 : decode cX4_writeMember 56 = .ok (.iload_n 1, 1) := by decide +kernel
theorem dX4_writeMember_57 : decode cX4_writeMember 57 = .ok (.invokevirtual 44, 3) := by decide +kernel
theorem dX4_writeMember_60 : decode cX4_writeMember 60 = .ok (.return_, 1) := by decide +kernel
theorem dX4_writeNode_0 : decode cX4_writeNode 0 = .ok (.iload_n 3, 1) := by decide +kernel
theorem dX4_writeNode_1 : decode cX4_writeNode 1 = .ok (.bipush 60, 2) := by decide +kernel
theorem dX4_writeNode_3 : decode cX4_writeNode 3 = .ok (.if_icmp .le 4, 3) := by decide +kernel
theorem dX4_writeNode_6 : decode cX4_writeNode 6 = .ok (.return_, 1) := by decide +kernel
theorem dX4_writeNode_7 : decode cX4_writeNode 7 = .ok (.aload_n 1, 1) := by decide +kernel
theorem dX4_writeNode_8 : decode cX4_writeNode 8 = .ok (.iload_n 2, 1) := by decide +kernel
theorem dX4_writeNode_9 : decode cX4_writeNode 9 = .ok (.invokevirtual 31, 3) := by decide +kernel
theorem dX4_writeNode_12 : decode cX4_writeNode 12 = .ok (.aload_n 1, 1) := by decide +kernel
theorem dX4_writeNode_13 : decode cX4_writeNode 13 = .ok (.aload_n 1, 1) := by decide +kernel
theorem dX4_writeNode_14 : decode cX4_writeNode 14 = .ok (.iload_n 2, 1) := by decide +kernel
theorem dX4_writeNode_15 : decode cX4_writeNode 15 = .ok (.invokevirtual 37, 3) := by decide +kernel
theorem dX4_writeNode_18 : decode cX4_writeNode 18 = .ok (.invokevirtual 31, 3) := by decide +kernel
theorem dX4_writeNode_21 : decode cX4_writeNode 21 = .ok (.aload_n 1, 1) := by decide +kernel
theorem dX4_writeNode_22 : decode cX4_writeNode 22 = .ok (.iload_n 2, 1) := by decide +kernel
theorem dX4_writeNode_23 : decode cX4_writeNode 23 = .ok (.invokevirtual 37, 3) := by decide +kernel
theorem dX4_writeNode_26 : decode cX4_writeNode 26 = .ok (.invokestatic 40, 3) := by decide +kernel
theorem dX4_writeNode_29 : decode cX4_writeNode 29 = .ok (.istore 4, 2) := by decide +kernel
theorem dX4_writeNode_31 : decode cX4_writeNode 31 = .ok (.iload 4, 2) := by decide +kernel
theorem dX4_writeNode_33 : decode cX4_writeNode 33 = .ok (.ifCond .eq 21, 3) := by decide +kernel
theorem dX4_writeNode_36 : decode cX4_writeNode 36 = .ok (.aload_n 0, 1) := by decide +kernel
theorem dX4_writeNode_37 : decode cX4_writeNode 37 = .ok (.getfield 14, 3) := by decide +kernel
theorem dX4_writeNode_40 : decode cX4_writeNode 40 = .ok (.bipush 40, 2) := by decide +kernel
theorem dX4_writeNode_42 : decode cX4_writeNode 42 = .ok (.invokevirtual 44, 3) := by decide +kernel
theorem dX4_writeNode_45 : decode cX4_writeNode 45 = .ok (.aload_n 0, 1) := by decide +kernel
theorem dX4_writeNode_46 : decode cX4_writeNode 46 = .ok (.getfield 14, 3) := by decide +kernel
theorem dX4_writeNode_49 : decode cX4_writeNode 49 = .ok (.bipush 58, 2) := by decide +kernel
theorem dX4_writeNode_51 : decode cX4_writeNode 51 = .ok (.invokevirtual 44, 3) := by decide +kernel
theorem dX4_writeNode_54 : decode cX4_writeNode 54 = .ok (.aload_n 1, 1) := by decide +kernel
theorem dX4_writeNode_55 : decode cX4_writeNode 55 = .ok (.iload_n 2, 1) := by decide +kernel
theorem dX4_writeNode_56 : decode cX4_writeNode 56 = .ok (.invokevirtual 31, 3) := by decide +kernel
theorem dX4_writeNode_59 : decode cX4_writeNode 59 = .ok (.iconst 4, 1) := by decide +kernel
theorem dX4_writeNode_60 : decode cX4_writeNode 60 = .ok (.if_icmp .gt 12, 3) := by decide +kernel
theorem dX4_writeNode_63 : decode cX4_writeNode 63 = .ok (.aload_n 0, 1) := by decide +kernel
theorem dX4_writeNode_64 : decode cX4_writeNode 64 = .ok (.aload_n 1, 1) := by decide +kernel
theorem dX4_writeNode_65 : decode cX4_writeNode 65 = .ok (.iload_n 2, 1) := by decide +kernel
theorem dX4_writeNode_66 : decode cX4_writeNode 66 = .ok (.invokevirtual 47, 3) := by decide +kernel
theorem dX4_writeNode_69 : decode cX4_writeNode 69 = .ok (.goto 78, 3) := by decide +kernel
theorem dX4_writeNode_72 : decode cX4_writeNode 72 = .ok (.aload_n 0, 1) := by decide +kernel
theorem dX4_writeNode_73 : decode cX4_writeNode 73 = .ok (.aload_n 1, 1) := by decide +kernel
theorem dX4_writeNode_74 : decode cX4_writeNode 74 = .ok (.iload_n 2, 1) := by decide +kernel
theorem dX4_writeNode_75 : decode cX4_writeNode 75 = .ok (.invokevirtual 51, 3) := by decide +kernel
theorem dX4_writeNode_78 : decode cX4_writeNode 78 = .ok (.aload_n 1, 1) := by decide +kernel
theorem dX4_writeNode_79 : decode cX4_writeNode 79 = .ok (.iload_n 2, 1) := by decide +kernel
theorem dX4_writeNode_80 : decode cX4_writeNode 80 = .ok (.invokevirtual 54, 3) := by decide +kernel
theorem dX4_writeNode_83 : decode cX4_writeNode 83 = .ok (.istore 5, 2) := by decide +kernel
theorem dX4_writeNode_85 : decode cX4_writeNode 85 = .ok (.iload 5, 2) := by decide +kernel
theorem dX4_writeNode_87 : decode cX4_writeNode 87 = .ok (.iconst (-1), 1) := by decide +kernel
theorem dX4_writeNode_88 : decode cX4_writeNode 88 = .ok (.if_icmp .eq 53, 3) := by decide +kernel
theorem dX4_writeNode_91 : decode cX4_writeNode 91 = .ok (.aload_n 0, 1) := by decide +kernel
theorem dX4_writeNode_92 : decode cX4_writeNode 92 = .ok (.aload_n 1, 1) := by decide +kernel
theorem dX4_writeNode_93 : decode cX4_writeNode 93 = .ok (.iload 5, 2) := by decide +kernel
theorem dX4_writeNode_95 : decode cX4_writeNode 95 = .ok (.iload_n 3, 1) := by decide +kernel
theorem dX4_writeNode_96 : decode cX4_writeNode 96 = .ok (.iconst 1, 1) := by decide +kernel
theorem dX4_writeNode_97 : decode cX4_writeNode 97 = .ok (.iadd, 1) := by decide +kernel
theorem dX4_writeNode_98 : decode cX4_writeNode 98 = .ok (.invokevirtual 27, 3) := by decide +kernel
theorem dX4_writeNode_101 : decode cX4_writeNode 101 = .ok (.aload_n 1, 1) := by decide +kernel
theorem dX4_writeNode_102 : decode cX4_writeNode 102 = .ok (.iload_n 2, 1) := by decide +kernel
theorem dX4_writeNode_103 : decode cX4_writeNode 103 = .ok (.invokevirtual 31, 3) := by decide +kernel
theorem dX4_writeNode_106 : decode cX4_writeNode 106 = .ok (.bipush 6, 2) := by decide +kernel
theorem dX4_writeNode_108 : decode cX4_writeNode 108 = .ok (.if_icmp .ne 22, 3) := by decide +kernel
theorem dX4_writeNode_111 : decode cX4_writeNode 111 = .ok (.aload_n 1, 1) := by decide +kernel
theorem dX4_writeNode_112 : decode cX4_writeNode 112 = .ok (.iload 5, 2) := by decide +kernel
theorem dX4_writeNode_114 : decode cX4_writeNode 114 = .ok (.invokevirtual 57, 3) := by decide +kernel
theorem dX4_writeNode_117 : decode cX4_writeNode 117 = .ok (.iconst (-1), 1) := by decide +kernel
theorem dX4_writeNode_118 : decode cX4_writeNode 118 = .ok (.if_icmp .eq 12, 3) := by decide +kernel
theorem dX4_writeNode_121 : decode cX4_writeNode 121 = .ok (.aload_n 0, 1) := by decide +kernel
theorem dX4_writeNode_122 : decode cX4_writeNode 122 = .ok (.getfield 14, 3) := by decide +kernel
theorem dX4_writeNode_125 : decode cX4_writeNode 125 = .ok (.bipush 124, 2) := by decide +kernel
theorem dX4_writeNode_127 : decode cX4_writeNode 127 = .ok (.invokevirtual 44, 3) := by decide +kernel
theorem dX4_writeNode_130 : decode cX4_writeNode 130 = .ok (.aload_n 1, 1) := by decide +kernel
theorem dX4_writeNode_131 : decode cX4_writeNode 131 = .ok (.iload 5, 2) := by decide +kernel
theorem dX4_writeNode_133 : decode cX4_writeNode 133 = .ok (.invokevirtual 57, 3) := by decide +kernel
theorem dX4_writeNode_136 : decode cX4_writeNode 136 = .ok (.istore 5, 2) := by decide +kernel
theorem dX4_writeNode_138 : decode cX4_writeNode 138 = .ok (.goto (-53), 3) := by decide +kernel
theorem dX4_writeNode_141 : decode cX4_writeNode 141 = .ok (.aload_n 0, 1) := by decide +kernel
theorem dX4_writeNode_142 : decode cX4_writeNode 142 = .ok (.aload_n 1, 1) := by decide +kernel
theorem dX4_writeNode_143 : decode cX4_writeNode 143 = .ok (.iload_n 2, 1) := by decide +kernel
theorem dX4_writeNode_144 : decode cX4_writeNode 144 = .ok (.invokevirtual 60, 3) := by decide +kernel
theorem dX4_writeNode_147 : decode cX4_writeNode 147 = .ok (.iload 4, 2) := by decide +kernel
theorem dX4_writeNode_149 : decode cX4_writeNode 149 = .ok (.ifCond .eq 12, 3) := by decide +kernel
theorem dX4_writeNode_152 : decode cX4_writeNode 152 = .ok (.aload_n 0, 1) := by decide +kernel
theorem dX4_writeNode_153 : decode cX4_writeNode 153 = .ok (.getfield 14, 3) := by decide +kernel
theorem dX4_writeNode_156 : decode cX4_writeNode 156 = .ok (.bipush 41, 2) := by decide +kernel
theorem dX4_writeNode_158 : decode cX4_writeNode 158 = .ok (.invokevirtual 44, 3) := by decide +kernel
theorem dX4_writeNode_161 : decode cX4_writeNode 161 = .ok (.return_, 1) := by decide +kernel
theorem dX4_writeNumber_0 : decode cX4_writeNumber 0 = .ok (.iload_n 1, 1) := by decide +kernel
theorem dX4_writeNumber_1 : decode cX4_writeNumber 1 = .ok (.bipush 10, 2) := by decide +kernel
theorem dX4_writeNumber_3 : decode cX4_writeNumber 3 = .ok (.if_icmp .lt 17, 3) := by decide +kernel
theorem dX4_writeNumber_6 : decode cX4_writeNumber 6 = .ok (.aload_n 0, 1) := by decide +kernel
theorem dX4_writeNumber_7 : decode cX4_writeNumber 7 = .ok (.getfield 14, 3) := by decide +kernel
theorem dX4_writeNumber_10 : decode cX4_writeNumber 10 = .ok (.bipush 48, 2) := by decide +kernel
theorem dX4_writeNumber_12 : decode cX4_writeNumber 12 = .ok (.iload_n 1, 1) := by decide +kernel
theorem dX4_writeNumber_13 : decode cX4_writeNumber 13 = .ok (.bipush 10, 2) := by decide +kernel
theorem dX4_writeNumber_15 : decode cX4_writeNumber 15 = .ok (.idiv, 1) := by decide +kernel
theorem dX4_writeNumber_16 : decode cX4_writeNumber 16 = .ok (.iadd, 1) := by decide +kernel
theorem dX4_writeNumber_17 : decode cX4_writeNumber 17 = .ok (.invokevirtual 44, 3) := by decide +kernel
theorem dX4_writeNumber_20 : decode cX4_writeNumber 20 = .ok (.aload_n 0, 1) := by decide +kernel
theorem dX4_writeNumber_21 : decode cX4_writeNumber 21 = .ok (.getfield 14, 3) := by decide +kernel
theorem dX4_writeNumber_24 : decode cX4_writeNumber 24 = .ok (.bipush 48, 2) := by decide +kernel
theorem dX4_writeNumber_26 : decode cX4_writeNumber 26 = .ok (.iload_n 1, 1) := by decide +kernel
theorem dX4_writeNumber_27 : decode cX4_writeNumber 27 = .ok (.bipush 10, 2) := by decide +kernel
theorem dX4_writeNumber_29 : decode cX4_writeNumber 29 = .ok (.irem, 1) := by decide +kernel
theorem dX4_writeNumber_30 : decode cX4_writeNumber 30 = .ok (.iadd, 1) := by decide +kernel
theorem dX4_writeNumber_31 : decode cX4_writeNumber 31 = .ok (.invokevirtual 44, 3) := by decide +kernel
theorem dX4_writeNumber_34 : decode cX4_writeNumber 34 = .ok (.return_, 1) := by decide +kernel
theorem dX4_writeOpening_0 : decode cX4_writeOpening 0 = .ok (.aload_n 1, 1) := by decide +kernel
theorem dX4_writeOpening_1 : decode cX4_writeOpening 1 = .ok (.iload_n 2, 1) := by decide +kernel
theorem dX4_writeOpening_2 : decode cX4_writeOpening 2 = .ok (.invokevirtual 31, 3) := by decide +kernel
theorem dX4_writeOpening_5 : decode cX4_writeOpening 5 = .ok (.tableswitch 155 8 11 #[31, 86, 113, 134], 31) := by decide +kernel
theorem dX4_writeOpening_36 : decode cX4_writeOpening 36 = .ok (.aload_n 0, 1) := by decide +kernel
theorem dX4_writeOpening_37 : decode cX4_writeOpening 37 = .ok (.getfield 14, 3) := by decide +kernel
theorem dX4_writeOpening_40 : decode cX4_writeOpening 40 = .ok (.bipush 40, 2) := by decide +kernel
theorem dX4_writeOpening_42 : decode cX4_writeOpening 42 = .ok (.invokevirtual 44, 3) := by decide +kernel
theorem dX4_writeOpening_45 : decode cX4_writeOpening 45 = .ok (.aload_n 1, 1) := by decide +kernel
theorem dX4_writeOpening_46 : decode cX4_writeOpening 46 = .ok (.iload_n 2, 1) := by decide +kernel
theorem dX4_writeOpening_47 : decode cX4_writeOpening 47 = .ok (.invokevirtual 104, 3) := by decide +kernel
theorem dX4_writeOpening_50 : decode cX4_writeOpening 50 = .ok (.ifCond .eq 27, 3) := by decide +kernel
theorem dX4_writeOpening_53 : decode cX4_writeOpening 53 = .ok (.aload_n 0, 1) := by decide +kernel
theorem dX4_writeOpening_54 : decode cX4_writeOpening 54 = .ok (.getfield 14, 3) := by decide +kernel
theorem dX4_writeOpening_57 : decode cX4_writeOpening 57 = .ok (.bipush 64, 2) := by decide +kernel
theorem dX4_writeOpening_59 : decode cX4_writeOpening 59 = .ok (.invokevirtual 44, 3) := by decide +kernel
theorem dX4_writeOpening_62 : decode cX4_writeOpening 62 = .ok (.aload_n 0, 1) := by decide +kernel
theorem dX4_writeOpening_63 : decode cX4_writeOpening 63 = .ok (.getfield 14, 3) := by decide +kernel
theorem dX4_writeOpening_66 : decode cX4_writeOpening 66 = .ok (.aload_n 1, 1) := by decide +kernel
theorem dX4_writeOpening_67 : decode cX4_writeOpening 67 = .ok (.iload_n 2, 1) := by decide +kernel
theorem dX4_writeOpening_68 : decode cX4_writeOpening 68 = .ok (.invokevirtual 104, 3) := by decide +kernel
theorem dX4_writeOpening_71 : decode cX4_writeOpening 71 = .ok (.invokevirtual 44, 3) := by decide +kernel
theorem dX4_writeOpening_74 : decode cX4_writeOpening 74 = .ok (.goto 86, 3) := by decide +kernel
theorem dX4_writeOpening_77 : decode cX4_writeOpening 77 = .ok (.aload_n 0, 1) := by decide +kernel
theorem dX4_writeOpening_78 : decode cX4_writeOpening 78 = .ok (.aload_n 0, 1) := by decide +kernel
theorem dX4_writeOpening_79 : decode cX4_writeOpening 79 = .ok (.getfield 14, 3) := by decide +kernel
theorem dX4_writeOpening_82 : decode cX4_writeOpening 82 = .ok (.getfield 79, 3) := by decide +kernel
theorem dX4_writeOpening_85 : decode cX4_writeOpening 85 = .ok (.putfield 23, 3) := by decide +kernel
theorem dX4_writeOpening_88 : decode cX4_writeOpening 88 = .ok (.goto 72, 3) := by decide +kernel
theorem dX4_writeOpening_91 : decode cX4_writeOpening 91 = .ok (.aload_n 0, 1) := by decide +kernel
theorem dX4_writeOpening_92 : decode cX4_writeOpening 92 = .ok (.getfield 14, 3) := by decide +kernel
theorem dX4_writeOpening_95 : decode cX4_writeOpening 95 = .ok (.bipush 40, 2) := by decide +kernel
theorem dX4_writeOpening_97 : decode cX4_writeOpening 97 = .ok (.invokevirtual 44, 3) := by decide +kernel
theorem dX4_writeOpening_100 : decode cX4_writeOpening 100 = .ok (.aload_n 0, 1) := by decide +kernel
theorem dX4_writeOpening_101 : decode cX4_writeOpening 101 = .ok (.getfield 14, 3) := by decide +kernel
theorem dX4_writeOpening_104 : decode cX4_writeOpening 104 = .ok (.aload_n 1, 1) := by decide +kernel
theorem dX4_writeOpening_105 : decode cX4_writeOpening 105 = .ok (.iload_n 2, 1) := by decide +kernel
theorem dX4_writeOpening_106 : decode cX4_writeOpening 106 = .ok (.invokevirtual 63, 3) := by decide +kernel
theorem dX4_writeOpening_109 : decode cX4_writeOpening 109 = .ok (.invokestatic 107, 3) := by decide +kernel
theorem dX4_writeOpening_112 : decode cX4_writeOpening 112 = .ok (.invokevirtual 44, 3) := by decide +kernel
theorem dX4_writeOpening_115 : decode cX4_writeOpening 115 = .ok (.goto 45, 3) := by decide +kernel
theorem dX4_writeOpening_118 : decode cX4_writeOpening 118 = .ok (.aload_n 0, 1) := by decide +kernel
theorem dX4_writeOpening_119 : decode cX4_writeOpening 119 = .ok (.getfield 14, 3) := by decide +kernel
theorem dX4_writeOpening_122 : decode cX4_writeOpening 122 = .ok (.bipush 40, 2) := by decide +kernel
theorem dX4_writeOpening_124 : decode cX4_writeOpening 124 = .ok (.invokevirtual 44, 3) := by decide +kernel
theorem dX4_writeOpening_127 : decode cX4_writeOpening 127 = .ok (.aload_n 0, 1) := by decide +kernel
theorem dX4_writeOpening_128 : decode cX4_writeOpening 128 = .ok (.getfield 14, 3) := by decide +kernel
theorem dX4_writeOpening_131 : decode cX4_writeOpening 131 = .ok (.bipush 42, 2) := by decide +kernel
theorem dX4_writeOpening_133 : decode cX4_writeOpening 133 = .ok (.invokevirtual 44, 3) := by decide +kernel
theorem dX4_writeOpening_136 : decode cX4_writeOpening 136 = .ok (.goto 24, 3) := by decide +kernel
theorem dX4_writeOpening_139 : decode cX4_writeOpening 139 = .ok (.aload_n 0, 1) := by decide +kernel
theorem dX4_writeOpening_140 : decode cX4_writeOpening 140 = .ok (.getfield 14, 3) := by decide +kernel
theorem dX4_writeOpening_143 : decode cX4_writeOpening 143 = .ok (.bipush 40, 2) := by decide +kernel
theorem dX4_writeOpening_145 : decode cX4_writeOpening 145 = .ok (.invokevirtual 44, 3) := by decide +kernel
theorem dX4_writeOpening_148 : decode cX4_writeOpening 148 = .ok (.aload_n 0, 1) := by decide +kernel
theorem dX4_writeOpening_149 : decode cX4_writeOpening 149 = .ok (.getfield 14, 3) := by decide +kernel
theorem dX4_writeOpening_152 : decode cX4_writeOpening 152 = .ok (.bipush 37, 2) := by decide +kernel
theorem dX4_writeOpening_154 : decode cX4_writeOpening 154 = .ok (.invokevirtual 44, 3) := by decide +kernel
theorem dX4_writeOpening_157 : decode cX4_writeOpening 157 = .ok (.goto 3, 3) := by decide +kernel
theorem dX4_writeOpening_160 : decode cX4_writeOpening 160 = .ok (.return_, 1) := by decide +kernel
theorem dX4_writeSet_0 : decode cX4_writeSet 0 = .ok (.aload_n 0, 1) := by decide +kernel
theorem dX4_writeSet_1 : decode cX4_writeSet 1 = .ok (.getfield 14, 3) := by decide +kernel
theorem dX4_writeSet_4 : decode cX4_writeSet 4 = .ok (.bipush 91, 2) := by decide +kernel
theorem dX4_writeSet_6 : decode cX4_writeSet 6 = .ok (.invokevirtual 44, 3) := by decide +kernel
theorem dX4_writeSet_9 : decode cX4_writeSet 9 = .ok (.aload_n 1, 1) := by decide +kernel
theorem dX4_writeSet_10 : decode cX4_writeSet 10 = .ok (.iload_n 2, 1) := by decide +kernel
theorem dX4_writeSet_11 : decode cX4_writeSet 11 = .ok (.invokevirtual 63, 3) := by decide +kernel
theorem dX4_writeSet_14 : decode cX4_writeSet 14 = .ok (.ifCond .eq 12, 3) := by decide +kernel
theorem dX4_writeSet_17 : decode cX4_writeSet 17 = .ok (.aload_n 0, 1) := by decide +kernel
theorem dX4_writeSet_18 : decode cX4_writeSet 18 = .ok (.getfield 14, 3) := by decide +kernel
theorem dX4_writeSet_21 : decode cX4_writeSet 21 = .ok (.bipush 94, 2) := by decide +kernel
theorem dX4_writeSet_23 : decode cX4_writeSet 23 = .ok (.invokevirtual 44, 3) := by decide +kernel
theorem dX4_writeSet_26 : decode cX4_writeSet 26 = .ok (.iconst 0, 1) := by decide +kernel
theorem dX4_writeSet_27 : decode cX4_writeSet 27 = .ok (.istore_n 3, 1) := by decide +kernel
theorem dX4_writeSet_28 : decode cX4_writeSet 28 = .ok (.iload_n 3, 1) := by decide +kernel
theorem dX4_writeSet_29 : decode cX4_writeSet 29 = .ok (.aload_n 1, 1) := by decide +kernel
theorem dX4_writeSet_30 : decode cX4_writeSet 30 = .ok (.iload_n 2, 1) := by decide +kernel
theorem dX4_writeSet_31 : decode cX4_writeSet 31 = .ok (.invokevirtual 91, 3) := by decide +kernel
theorem dX4_writeSet_34 : decode cX4_writeSet 34 = .ok (.if_icmp .ge 53, 3) := by decide +kernel
theorem dX4_writeSet_37 : decode cX4_writeSet 37 = .ok (.aload_n 0, 1) := by decide +kernel
theorem dX4_writeSet_38 : decode cX4_writeSet 38 = .ok (.aload_n 1, 1) := by decide +kernel
theorem dX4_writeSet_39 : decode cX4_writeSet 39 = .ok (.iload_n 2, 1) := by decide +kernel
theorem dX4_writeSet_40 : decode cX4_writeSet 40 = .ok (.iload_n 3, 1) := by decide +kernel
theorem dX4_writeSet_41 : decode cX4_writeSet 41 = .ok (.invokevirtual 94, 3) := by decide +kernel
theorem dX4_writeSet_44 : decode cX4_writeSet 44 = .ok (.invokevirtual 98, 3) := by decide +kernel
theorem dX4_writeSet_47 : decode cX4_writeSet 47 = .ok (.aload_n 1, 1) := by decide +kernel
theorem dX4_writeSet_48 : decode cX4_writeSet 48 = .ok (.iload_n 2, 1) := by decide +kernel
theorem dX4_writeSet_49 : decode cX4_writeSet 49 = .ok (.iload_n 3, 1) := by decide +kernel
theorem dX4_writeSet_50 : decode cX4_writeSet 50 = .ok (.invokevirtual 101, 3) := by decide +kernel
theorem dX4_writeSet_53 : decode cX4_writeSet 53 = .ok (.aload_n 1, 1) := by decide +kernel
theorem dX4_writeSet_54 : decode cX4_writeSet 54 = .ok (.iload_n 2, 1) := by decide +kernel
theorem dX4_writeSet_55 : decode cX4_writeSet 55 = .ok (.iload_n 3, 1) := by decide +kernel
theorem dX4_writeSet_56 : decode cX4_writeSet 56 = .ok (.invokevirtual 94, 3) := by decide +kernel
theorem dX4_writeSet_59 : decode cX4_writeSet 59 = .ok (.if_icmp .eq 22, 3) := by decide +kernel
theorem dX4_writeSet_62 : decode cX4_writeSet 62 = .ok (.aload_n 0, 1) := by decide +kernel
theorem dX4_writeSet_63 : decode cX4_writeSet 63 = .ok (.getfield 14, 3) := by decide +kernel
theorem dX4_writeSet_66 : decode cX4_writeSet 66 = .ok (.bipush 45, 2) := by decide +kernel
theorem dX4_writeSet_68 : decode cX4_writeSet 68 = .ok (.invokevirtual 44, 3) := by decide +kernel
theorem dX4_writeSet_71 : decode cX4_writeSet 71 = .ok (.aload_n 0, 1) := by decide +kernel
theorem dX4_writeSet_72 : decode cX4_writeSet 72 = .ok (.aload_n 1, 1) := by decide +kernel
theorem dX4_writeSet_73 : decode cX4_writeSet 73 = .ok (.iload_n 2, 1) := by decide +kernel
theorem dX4_writeSet_74 : decode cX4_writeSet 74 = .ok (.iload_n 3, 1) := by decide +kernel
theorem dX4_writeSet_75 : decode cX4_writeSet 75 = .ok (.invokevirtual 101, 3) := by decide +kernel
theorem dX4_writeSet_78 : decode cX4_writeSet 78 = .ok (.invokevirtual 98, 3) := by decide +kernel
theorem dX4_writeSet_81 : decode cX4_writeSet 81 = .ok (.iinc 3 1, 3) := by decide +kernel
theorem dX4_writeSet_84 : decode cX4_writeSet 84 = .ok (.goto (-56), 3) := by decide +kernel
theorem dX4_writeSet_87 : decode cX4_writeSet 87 = .ok (.aload_n 0, 1) := by decide +kernel
theorem dX4_writeSet_88 : decode cX4_writeSet 88 = .ok (.getfield 14, 3) := by decide +kernel
theorem dX4_writeSet_91 : decode cX4_writeSet 91 = .ok (.bipush 93, 2) := by decide +kernel
theorem dX4_writeSet_93 : decode cX4_writeSet 93 = .ok (.invokevirtual 44, 3) := by decide +kernel
theorem dX4_writeSet_96 : decode cX4_writeSet 96 = .ok (.return_, 1) := by decide +kernel
theorem dX4_writeSign_0 : decode cX4_writeSign 0 = .ok (.iload_n 1, 1) := by decide +kernel
theorem dX4_writeSign_1 : decode cX4_writeSign 1 = .ok (.invokestatic 75, 3) := by decide +kernel
theorem dX4_writeSign_4 : decode cX4_writeSign 4 = .ok (.ifCond .eq 24, 3) := by decide +kernel
theorem dX4_writeSign_7 : decode cX4_writeSign 7 = .ok (.aload_n 0, 1) := by decide +kernel
theorem dX4_writeSign_8 : decode cX4_writeSign 8 = .ok (.getfield 14, 3) := by decide +kernel
theorem dX4_writeSign_11 : decode cX4_writeSign 11 = .ok (.getfield 79, 3) := by decide +kernel
theorem dX4_writeSign_14 : decode cX4_writeSign 14 = .ok (.aload_n 0, 1) := by decide +kernel
theorem dX4_writeSign_15 : decode cX4_writeSign 15 = .ok (.getfield 23, 3) := by decide +kernel
theorem dX4_writeSign_18 : decode cX4_writeSign 18 = .ok (.if_icmp .ne 16, 3) := by decide +kernel
theorem dX4_writeSign_21 : decode cX4_writeSign 21 = .ok (.iload_n 1, 1) := by decide +kernel
theorem dX4_writeSign_22 : decode cX4_writeSign 22 = .ok (.invokestatic 82, 3) := by decide +kernel
theorem dX4_writeSign_25 : decode cX4_writeSign 25 = .ok (.ifCond .eq 9, 3) := by decide +kernel
theorem dX4_writeSign_28 : decode cX4_writeSign 28 = .ok (.aload_n 0, 1) := by decide +kernel
theorem dX4_writeSign_29 : decode cX4_writeSign 29 = .ok (.iload_n 1, 1) := by decide +kernel
theorem dX4_writeSign_30 : decode cX4_writeSign 30 = .ok (.invokevirtual 85, 3) := by decide +kernel
theorem dX4_writeSign_33 : decode cX4_writeSign 33 = .ok (.return_, 1) := by decide +kernel
theorem dX4_writeSign_34 : decode cX4_writeSign 34 = .ok (.iload_n 1, 1) := by decide +kernel
theorem dX4_writeSign_35 : decode cX4_writeSign 35 = .ok (.invokestatic 88, 3) := by decide +kernel
theorem dX4_writeSign_38 : decode cX4_writeSign 38 = .ok (.ifCond .ne 12, 3) := by decide +kernel
theorem dX4_writeSign_41 : decode cX4_writeSign 41 = .ok (.aload_n 0, 1) := by decide +kernel
theorem dX4_writeSign_42 : decode cX4_writeSign 42 = .ok (.getfield 14, 3) := by decide +kernel
theorem dX4_writeSign_45 : decode cX4_writeSign 45 = .ok (.bipush 92, 2) := by decide +kernel
theorem dX4_writeSign_47 : decode cX4_writeSign 47 = .ok (.invokevirtual 44, 3) := by decide +kernel
theorem dX4_writeSign_50 : decode cX4_writeSign 50 = .ok (.aload_n 0, 1) := by decide +kernel
theorem dX4_writeSign_51 : decode cX4_writeSign 51 = .ok (.getfield 14, 3) := by decide +kernel
theorem dX4_writeSign_54 : decode cX4_writeSign 54 = .ok (.iload_n 1, 1) := by decide +kernel
theorem dX4_writeSign_55 : decode cX4_writeSign 55 = .ok (.invokevirtual 44, 3) := by decide +kernel
theorem dX4_writeSign_58 : decode cX4_writeSign 58 = .ok (.return_, 1) := by decide +kernel
theorem dX5_add_0 : decode cX5_add 0 = .ok (.aload_n 0, 1) := by decide +kernel
theorem dX5_add_1 : decode cX5_add 1 = .ok (.getfield 33, 3) := by decide +kernel
theorem dX5_add_4 : decode cX5_add 4 = .ok (.sipush 512, 3) := by decide +kernel
theorem dX5_add_7 : decode cX5_add 7 = .ok (.if_icmp .lt 5, 3) := by decide +kernel
theorem dX5_add_10 : decode cX5_add 10 = .ok (.iload_n 3, 1) := by decide +kernel
theorem dX5_add_11 : decode cX5_add 11 = .ok (.ireturn, 1) := by decide +kernel
theorem dX5_add_12 : decode cX5_add 12 = .ok (.aload_n 0, 1) := by decide +kernel
theorem dX5_add_13 : decode cX5_add 13 = .ok (.getfield 33, 3) := by decide +kernel
theorem dX5_add_16 : decode cX5_add 16 = .ok (.istore 5, 2) := by decide +kernel
theorem dX5_add_18 : decode cX5_add 18 = .ok (.aload_n 0, 1) := by decide +kernel
theorem dX5_add_19 : decode cX5_add 19 = .ok (.dup, 1) := by decide +kernel
theorem dX5_add_20 : decode cX5_add 20 = .ok (.getfield 33, 3) := by decide +kernel
theorem dX5_add_23 : decode cX5_add 23 = .ok (.iconst 1, 1) := by decide +kernel
theorem dX5_add_24 : decode cX5_add 24 = .ok (.iadd, 1) := by decide +kernel
theorem dX5_add_25 : decode cX5_add 25 = .ok (.putfield 33, 3) := by decide +kernel
theorem dX5_add_28 : decode cX5_add 28 = .ok (.aload_n 0, 1) := by decide +kernel
theorem dX5_add_29 : decode cX5_add 29 = .ok (.getfield 20, 3) := by decide +kernel
theorem dX5_add_32 : decode cX5_add 32 = .ok (.iload 5, 2) := by decide +kernel
theorem dX5_add_34 : decode cX5_add 34 = .ok (.iload_n 1, 1) := by decide +kernel
theorem dX5_add_35 : decode cX5_add 35 = .ok (.iastore, 1) := by decide +kernel
theorem dX5_add_36 : decode cX5_add 36 = .ok (.aload_n 0, 1) := by decide +kernel
theorem dX5_add_37 : decode cX5_add 37 = .ok (.getfield 24, 3) := by decide +kernel
theorem dX5_add_40 : decode cX5_add 40 = .ok (.iload 5, 2) := by decide +kernel
theorem dX5_add_42 : decode cX5_add 42 = .ok (.iload_n 2, 1) := by decide +kernel
theorem dX5_add_43 : decode cX5_add 43 = .ok (.iastore, 1) := by decide +kernel
theorem dX5_add_44 : decode cX5_add 44 = .ok (.aload_n 0, 1) := by decide +kernel
theorem dX5_add_45 : decode cX5_add 45 = .ok (.getfield 27, 3) := by decide +kernel
theorem dX5_add_48 : decode cX5_add 48 = .ok (.iload 5, 2) := by decide +kernel
theorem dX5_add_50 : decode cX5_add 50 = .ok (.iload_n 3, 1) := by decide +kernel
theorem dX5_add_51 : decode cX5_add 51 = .ok (.iastore, 1) := by decide +kernel
theorem dX5_add_52 : decode cX5_add 52 = .ok (.aload_n 0, 1) := by decide +kernel
theorem dX5_add_53 : decode cX5_add 53 = .ok (.getfield 30, 3) := by decide +kernel
theorem dX5_add_56 : decode cX5_add 56 = .ok (.iload 5, 2) := by decide +kernel
theorem dX5_add_58 : decode cX5_add 58 = .ok (.iload 4, 2) := by decide +kernel
theorem dX5_add_60 : decode cX5_add 60 = .ok (.iastore, 1) := by decide +kernel
theorem dX5_add_61 : decode cX5_add 61 = .ok (.iload 5, 2) := by decide +kernel
theorem dX5_add_63 : decode cX5_add 63 = .ok (.ireturn, 1) := by decide +kernel
theorem dX5_aim_0 : decode cX5_aim 0 = .ok (.iload_n 1, 1) := by decide +kernel
theorem dX5_aim_1 : decode cX5_aim 1 = .ok (.ifCond .lt 43, 3) := by decide +kernel
theorem dX5_aim_4 : decode cX5_aim 4 = .ok (.iload_n 1, 1) := by decide +kernel
theorem dX5_aim_5 : decode cX5_aim 5 = .ok (.aload_n 0, 1) := by decide +kernel
theorem dX5_aim_6 : decode cX5_aim 6 = .ok (.getfield 33, 3) := by decide +kernel
theorem dX5_aim_9 : decode cX5_aim 9 = .ok (.if_icmp .ge 35, 3) := by decide +kernel
theorem dX5_aim_12 : decode cX5_aim 12 = .ok (.aload_n 0, 1) := by decide +kernel
theorem dX5_aim_13 : decode cX5_aim 13 = .ok (.getfield 27, 3) := by decide +kernel
theorem dX5_aim_16 : decode cX5_aim 16 = .ok (.iload_n 1, 1) := by decide +kernel
theorem dX5_aim_17 : decode cX5_aim 17 = .ok (.iload 4, 2) := by decide +kernel
theorem dX5_aim_19 : decode cX5_aim 19 = .ok (.ifCond .eq 7, 3) := by decide +kernel
theorem dX5_aim_22 : decode cX5_aim 22 = .ok (.iload_n 3, 1) := by decide +kernel
theorem dX5_aim_23 : decode cX5_aim 23 = .ok (.goto 4, 3) := by decide +kernel
theorem dX5_aim_26 : decode cX5_aim 26 = .ok (.iload_n 2, 1) := by decide +kernel
theorem dX5_aim_27 : decode cX5_aim 27 = .ok (.iastore, 1) := by decide +kernel
theorem dX5_aim_28 : decode cX5_aim 28 = .ok (.aload_n 0, 1) := by decide +kernel
theorem dX5_aim_29 : decode cX5_aim 29 = .ok (.getfield 30, 3) := by decide +kernel
theorem dX5_aim_32 : decode cX5_aim 32 = .ok (.iload_n 1, 1) := by decide +kernel
theorem dX5_aim_33 : decode cX5_aim 33 = .ok (.iload 4, 2) := by decide +kernel
theorem dX5_aim_35 : decode cX5_aim 35 = .ok (.ifCond .eq 7, 3) := by decide +kernel
theorem dX5_aim_38 : decode cX5_aim 38 = .ok (.iload_n 2, 1) := by decide +kernel
theorem dX5_aim_39 : decode cX5_aim 39 = .ok (.goto 4, 3) := by decide +kernel
theorem dX5_aim_42 : decode cX5_aim 42 = .ok (.iload_n 3, 1) := by decide +kernel
theorem dX5_aim_43 : decode cX5_aim 43 = .ok (.iastore, 1) := by decide +kernel
theorem dX5_aim_44 : decode cX5_aim 44 = .ok (.return_, 1) := by decide +kernel
theorem dX5_build_0 : decode cX5_build 0 = .ok (.iload 4, 2) := by decide +kernel
theorem dX5_build_2 : decode cX5_build 2 = .ok (.bipush 60, 2) := by decide +kernel
theorem dX5_build_4 : decode cX5_build 4 = .ok (.if_icmp .le 5, 3) := by decide +kernel
theorem dX5_build_7 : decode cX5_build 7 = .ok (.iload_n 2, 1) := by decide +kernel
theorem dX5_build_8 : decode cX5_build 8 = .ok (.ireturn, 1) := by decide +kernel
theorem dX5_build_9 : decode cX5_build 9 = .ok (.aload_n 0, 1) := by decide +kernel
theorem dX5_build_10 : decode cX5_build 10 = .ok (.getfield 14, 3) := by decide +kernel
theorem dX5_build_13 : decode cX5_build 13 = .ok (.iload_n 1, 1) := by decide +kernel
theorem dX5_build_14 : decode cX5_build 14 = .ok (.invokevirtual 55, 3) := by decide +kernel
theorem dX5_build_17 : decode cX5_build 17 = .ok (.tableswitch 157 0 8 #[51, 51, 51, 60, 157, 76, 86, 96, 106], 51) := by decide +kernel
theorem dX5_build_68 : decode cX5_build 68 = .ok (.aload_n 0, 1) := by decide +kernel
theorem dX5_build_69 : decode cX5_build 69 = .ok (.iconst 0, 1) := by decide +kernel
theorem dX5_build_70 : decode cX5_build 70 = .ok (.iload_n 1, 1) := by decide +kernel
theorem dX5_build_71 : decode cX5_build 71 = .ok (.iload_n 2, 1) := by decide +kernel
theorem dX5_build_72 : decode cX5_build 72 = .ok (.iload_n 3, 1) := by decide +kernel
theorem dX5_build_73 : decode cX5_build 73 = .ok (.invokevirtual 37, 3) := by decide +kernel
theorem dX5_build_76 : decode cX5_build 76 = .ok (.ireturn, 1) := by decide +kernel
theorem dX5_build_77 : decode cX5_build 77 = .ok (.aload_n 0, 1) := by decide +kernel
theorem dX5_build_78 : decode cX5_build 78 = .ok (.iconst 1, 1) := by decide +kernel
theorem dX5_build_79 : decode cX5_build 79 = .ok (.aload_n 0, 1) := by decide +kernel
theorem dX5_build_80 : decode cX5_build 80 = .ok (.getfield 14, 3) := by decide +kernel
theorem dX5_build_83 : decode cX5_build 83 = .ok (.iload_n 1, 1) := by decide +kernel
theorem dX5_build_84 : decode cX5_build 84 = .ok (.invokevirtual 58, 3) := by decide +kernel
theorem dX5_build_87 : decode cX5_build 87 = .ok (.iload_n 2, 1) := by decide +kernel
theorem dX5_build_88 : decode cX5_build 88 = .ok (.iconst (-1), 1) := by decide +kernel
theorem dX5_build_89 : decode cX5_build 89 = .ok (.invokevirtual 37, 3) := by decide +kernel
theorem dX5_build_92 : decode cX5_build 92 = .ok (.ireturn, 1) := by decide +kernel
theorem dX5_build_93 : decode cX5_build 93 = .ok (.aload_n 0, 1) := by decide +kernel
theorem dX5_build_94 : decode cX5_build 94 = .ok (.iload_n 1, 1) := by decide +kernel
theorem dX5_build_95 : decode cX5_build 95 = .ok (.iload_n 2, 1) := by decide +kernel
theorem dX5_build_96 : decode cX5_build 96 = .ok (.iload_n 3, 1) := by decide +kernel
theorem dX5_build_97 : decode cX5_build 97 = .ok (.iload 4, 2) := by decide +kernel
theorem dX5_build_99 : decode cX5_build 99 = .ok (.invokevirtual 61, 3) := by decide +kernel
theorem dX5_build_102 : decode cX5_build 102 = .ok (.ireturn, 1) := by decide +kernel
theorem dX5_build_103 : decode cX5_build 103 = .ok (.aload_n 0, 1) := by decide +kernel
theorem dX5_build_104 : decode cX5_build 104 = .ok (.iload_n 1, 1) := by decide +kernel
theorem dX5_build_105 : decode cX5_build 105 = .ok (.iload_n 2, 1) := by decide +kernel
theorem dX5_build_106 : decode cX5_build 106 = .ok (.iload_n 3, 1) := by decide +kernel
theorem dX5_build_107 : decode cX5_build 107 = .ok (.iload 4, 2) := by decide +kernel
theorem dX5_build_109 : decode cX5_build 109 = .ok (.invokevirtual 64, 3) := by decide +kernel
theorem dX5_build_112 : decode cX5_build 112 = .ok (.ireturn, 1) := by decide +kernel
theorem dX5_build_113 : decode cX5_build 113 = .ok (.aload_n 0, 1) := by decide +kernel
theorem dX5_build_114 : decode cX5_build 114 = .ok (.iload_n 1, 1) := by decide +kernel
theorem dX5_build_115 : decode cX5_build 115 = .ok (.iload_n 2, 1) := by decide +kernel
theorem dX5_build_116 : decode cX5_build 116 = .ok (.iload_n 3, 1) := by decide +kernel
theorem dX5_build_117 : decode cX5_build 117 = .ok (.iload 4, 2) := by decide +kernel
theorem dX5_build_119 : decode cX5_build 119 = .ok (.invokevirtual 67, 3) := by decide +kernel
theorem dX5_build_122 : decode cX5_build 122 = .ok (.ireturn, 1) := by decide +kernel
theorem dX5_build_123 : decode cX5_build 123 = .ok (.aload_n 0, 1) := by decide +kernel
theorem dX5_build_124 : decode cX5_build 124 = .ok (.iconst 3, 1) := by decide +kernel
theorem dX5_build_125 : decode cX5_build 125 = .ok (.aload_n 0, 1) := by decide +kernel
theorem dX5_build_126 : decode cX5_build 126 = .ok (.getfield 14, 3) := by decide +kernel
theorem dX5_build_129 : decode cX5_build 129 = .ok (.iload_n 1, 1) := by decide +kernel
theorem dX5_build_130 : decode cX5_build 130 = .ok (.invokevirtual 58, 3) := by decide +kernel
theorem dX5_build_133 : decode cX5_build 133 = .ok (.iload_n 2, 1) := by decide +kernel
theorem dX5_build_134 : decode cX5_build 134 = .ok (.iconst (-1), 1) := by decide +kernel
theorem dX5_build_135 : decode cX5_build 135 = .ok (.invokevirtual 37, 3) := by decide +kernel
theorem dX5_build_138 : decode cX5_build 138 = .ok (.istore 5, 2) := by decide +kernel
theorem dX5_build_140 : decode cX5_build 140 = .ok (.aload_n 0, 1) := by decide +kernel
theorem dX5_build_141 : decode cX5_build 141 = .ok (.iconst 2, 1) := by decide +kernel
theorem dX5_build_142 : decode cX5_build 142 = .ok (.aload_n 0, 1) := by decide +kernel
theorem dX5_build_143 : decode cX5_build 143 = .ok (.getfield 14, 3) := by decide +kernel
theorem dX5_build_146 : decode cX5_build 146 = .ok (.iload_n 1, 1) := by decide +kernel
theorem dX5_build_147 : decode cX5_build 147 = .ok (.invokevirtual 58, 3) := by decide +kernel
theorem dX5_build_150 : decode cX5_build 150 = .ok (.aload_n 0, 1) := by decide +kernel
theorem dX5_build_151 : decode cX5_build 151 = .ok (.aload_n 0, 1) := by decide +kernel
theorem dX5_build_152 : decode cX5_build 152 = .ok (.getfield 14, 3) := by decide +kernel
theorem dX5_build_155 : decode cX5_build 155 = .ok (.iload_n 1, 1) := by decide +kernel
theorem dX5_build_156 : decode cX5_build 156 = .ok (.invokevirtual 70, 3) := by decide +kernel
theorem dX5_build_159 : decode cX5_build 159 = .ok (.iload 5, 2) := by decide +kernel
theorem dX5_build_161 : decode cX5_build 161 = .ok (.iload_n 3, 1) := by decide +kernel
theorem dX5_build_162 : decode cX5_build 162 = .ok (.iload 4, 2) := by decide +kernel
theorem dX5_build_164 : decode cX5_build 164 = .ok (.iconst 1, 1) := by decide +kernel
theorem dX5_build_165 : decode cX5_build 165 = .ok (.iadd, 1) := by decide +kernel
theorem dX5_build_166 : decode cX5_build 166 = .ok (.invokevirtual 41, 3) := by decide +kernel
theorem dX5_build_169 : decode cX5_build 169 = .ok (.iconst (-1), 1) := by decide +kernel
theorem dX5_build_170 : decode cX5_build 170 = .ok (.invokevirtual 37, 3) := by decide +kernel
theorem dX5_build_173 : decode cX5_build 173 = .ok (.ireturn, 1) := by decide +kernel
theorem dX5_build_174 : decode cX5_build 174 = .ok (.aload_n 0, 1) := by decide +kernel
theorem dX5_build_175 : decode cX5_build 175 = .ok (.aload_n 0, 1) := by decide +kernel
theorem dX5_build_176 : decode cX5_build 176 = .ok (.getfield 14, 3) := by decide +kernel
theorem dX5_build_179 : decode cX5_build 179 = .ok (.iload_n 1, 1) := by decide +kernel
theorem dX5_build_180 : decode cX5_build 180 = .ok (.invokevirtual 70, 3) := by decide +kernel
theorem dX5_build_183 : decode cX5_build 183 = .ok (.iload_n 2, 1) := by decide +kernel
theorem dX5_build_184 : decode cX5_build 184 = .ok (.iload_n 3, 1) := by decide +kernel
theorem dX5_build_185 : decode cX5_build 185 = .ok (.iload 4, 2) := by decide +kernel
theorem dX5_build_187 : decode cX5_build 187 = .ok (.iconst 1, 1) := by decide +kernel
theorem dX5_build_188 : decode cX5_build 188 = .ok (.iadd, 1) := by decide +kernel
theorem dX5_build_189 : decode cX5_build 189 = .ok (.invokevirtual 41, 3) := by decide +kernel
theorem dX5_build_192 : decode cX5_build 192 = .ok (.ireturn, 1) := by decide +kernel
theorem dX5_buildChoice_0 : decode cX5_buildChoice 0 = .ok (.aload_n 0, 1) := by decide +kernel
theorem dX5_buildChoice_1 : decode cX5_buildChoice 1 = .ok (.getfield 14, 3) := by decide +kernel
theorem dX5_buildChoice_4 : decode cX5_buildChoice 4 = .ok (.iload_n 1, 1) := by decide +kernel
theorem dX5_buildChoice_5 : decode cX5_buildChoice 5 = .ok (.invokevirtual 73, 3) := by decide +kernel
theorem dX5_buildChoice_8 : decode cX5_buildChoice 8 = .ok (.istore 5, 2) := by decide +kernel
theorem dX5_buildChoice_10 : decode cX5_buildChoice 10 = .ok (.aload_n 0, 1) := by decide +kernel
theorem dX5_buildChoice_11 : decode cX5_buildChoice 11 = .ok (.iload 5, 2) := by decide +kernel
theorem dX5_buildChoice_13 : decode cX5_buildChoice 13 = .ok (.iload_n 2, 1) := by decide +kernel
theorem dX5_buildChoice_14 : decode cX5_buildChoice 14 = .ok (.iload_n 3, 1) := by decide +kernel
theorem dX5_buildChoice_15 : decode cX5_buildChoice 15 = .ok (.iload 4, 2) := by decide +kernel
theorem dX5_buildChoice_17 : decode cX5_buildChoice 17 = .ok (.iconst 1, 1) := by decide +kernel
theorem dX5_buildChoice_18 : decode cX5_buildChoice 18 = .ok (.iadd, 1) := by decide +kernel
theorem dX5_buildChoice_19 : decode cX5_buildChoice 19 = .ok (.invokevirtual 41, 3) := by decide +kernel
theorem dX5_buildChoice_22 : decode cX5_buildChoice 22 = .ok (.istore 6, 2) := by decide +kernel
theorem dX5_buildChoice_24 : decode cX5_buildChoice 24 = .ok (.aload_n 0, 1) := by decide +kernel
theorem dX5_buildChoice_25 : decode cX5_buildChoice 25 = .ok (.getfield 14, 3) := by decide +kernel
theorem dX5_buildChoice_28 : decode cX5_buildChoice 28 = .ok (.iload 5, 2) := by decide +kernel
theorem dX5_buildChoice_30 : decode cX5_buildChoice 30 = .ok (.invokevirtual 76, 3) := by decide +kernel
theorem dX5_buildChoice_33 : decode cX5_buildChoice 33 = .ok (.istore 7, 2) := by decide +kernel
theorem dX5_buildChoice_35 : decode cX5_buildChoice 35 = .ok (.iload 7, 2) := by decide +kernel
theorem dX5_buildChoice_37 : decode cX5_buildChoice 37 = .ok (.iconst (-1), 1) := by decide +kernel
theorem dX5_buildChoice_38 : decode cX5_buildChoice 38 = .ok (.if_icmp .eq 39, 3) := by decide +kernel
theorem dX5_buildChoice_41 : decode cX5_buildChoice 41 = .ok (.aload_n 0, 1) := by decide +kernel
theorem dX5_buildChoice_42 : decode cX5_buildChoice 42 = .ok (.iconst 4, 1) := by decide +kernel
theorem dX5_buildChoice_43 : decode cX5_buildChoice 43 = .ok (.iconst (-1), 1) := by decide +kernel
theorem dX5_buildChoice_44 : decode cX5_buildChoice 44 = .ok (.aload_n 0, 1) := by decide +kernel
theorem dX5_buildChoice_45 : decode cX5_buildChoice 45 = .ok (.iload 7, 2) := by decide +kernel
theorem dX5_buildChoice_47 : decode cX5_buildChoice 47 = .ok (.iload_n 2, 1) := by decide +kernel
theorem dX5_buildChoice_48 : decode cX5_buildChoice 48 = .ok (.iload_n 3, 1) := by decide +kernel
theorem dX5_buildChoice_49 : decode cX5_buildChoice 49 = .ok (.iload 4, 2) := by decide +kernel
theorem dX5_buildChoice_51 : decode cX5_buildChoice 51 = .ok (.iconst 1, 1) := by decide +kernel
theorem dX5_buildChoice_52 : decode cX5_buildChoice 52 = .ok (.iadd, 1) := by decide +kernel
theorem dX5_buildChoice_53 : decode cX5_buildChoice 53 = .ok (.invokevirtual 41, 3) := by decide +kernel
theorem dX5_buildChoice_56 : decode cX5_buildChoice 56 = .ok (.iload 6, 2) := by decide +kernel
theorem dX5_buildChoice_58 : decode cX5_buildChoice 58 = .ok (.invokevirtual 37, 3) := by decide +kernel
theorem dX5_buildChoice_61 : decode cX5_buildChoice 61 = .ok (.istore 6, 2) := by decide +kernel
theorem dX5_buildChoice_63 : decode cX5_buildChoice 63 = .ok (.aload_n 0, 1) := by decide +kernel
theorem dX5_buildChoice_64 : decode cX5_buildChoice 64 = .ok (.getfield 14, 3) := by decide +kernel
theorem dX5_buildChoice_67 : decode cX5_buildChoice 67 = .ok (.iload 7, 2) := by decide +kernel
theorem dX5_buildChoice_69 : decode cX5_buildChoice 69 = .ok (.invokevirtual 76, 3) := by decide +kernel
theorem dX5_buildChoice_72 : decode cX5_buildChoice 72 = .ok (.istore 7, 2) := by decide +kernel
theorem dX5_buildChoice_74 : decode cX5_buildChoice 74 = .ok (.goto (-39), 3) := by decide +kernel
theorem dX5_buildChoice_77 : decode cX5_buildChoice 77 = .ok (.iload 6, 2) := by decide +kernel
theorem dX5_buildChoice_79 : decode cX5_buildChoice 79 = .ok (.ireturn, 1) := by decide +kernel
theorem dX5_buildLoop_0 : decode cX5_buildLoop 0 = .ok (.aload_n 0, 1) := by decide +kernel
theorem dX5_buildLoop_1 : decode cX5_buildLoop 1 = .ok (.getfield 14, 3) := by decide +kernel
theorem dX5_buildLoop_4 : decode cX5_buildLoop 4 = .ok (.iload_n 1, 1) := by decide +kernel
theorem dX5_buildLoop_5 : decode cX5_buildLoop 5 = .ok (.invokevirtual 70, 3) := by decide +kernel
theorem dX5_buildLoop_8 : decode cX5_buildLoop 8 = .ok (.istore 5, 2) := by decide +kernel
theorem dX5_buildLoop_10 : decode cX5_buildLoop 10 = .ok (.aload_n 0, 1) := by decide +kernel
theorem dX5_buildLoop_11 : decode cX5_buildLoop 11 = .ok (.getfield 14, 3) := by decide +kernel
theorem dX5_buildLoop_14 : decode cX5_buildLoop 14 = .ok (.iload_n 1, 1) := by decide +kernel
theorem dX5_buildLoop_15 : decode cX5_buildLoop 15 = .ok (.invokevirtual 58, 3) := by decide +kernel
theorem dX5_buildLoop_18 : decode cX5_buildLoop 18 = .ok (.iconst 1, 1) := by decide +kernel
theorem dX5_buildLoop_19 : decode cX5_buildLoop 19 = .ok (.if_icmp .ne 7, 3) := by decide +kernel
theorem dX5_buildLoop_22 : decode cX5_buildLoop 22 = .ok (.iconst 1, 1) := by decide +kernel
theorem dX5_buildLoop_23 : decode cX5_buildLoop 23 = .ok (.goto 4, 3) := by decide +kernel
theorem dX5_buildLoop_26 : decode cX5_buildLoop 26 = .ok (.iconst 0, 1) := by decide +kernel
theorem dX5_buildLoop_27 : decode cX5_buildLoop 27 = .ok (.istore 6, 2) := by decide +kernel
theorem dX5_buildLoop_29 : decode cX5_buildLoop 29 = .ok (.iload_n 2, 1) := by decide +kernel
theorem dX5_buildLoop_30 : decode cX5_buildLoop 30 = .ok (.istore 7, 2) := by decide +kernel
theorem dX5_buildLoop_32 : decode cX5_buildLoop 32 = .ok (.aload_n 0, 1) := by decide +kernel
theorem dX5_buildLoop_33 : decode cX5_buildLoop 33 = .ok (.getfield 14, 3) := by decide +kernel
theorem dX5_buildLoop_36 : decode cX5_buildLoop 36 = .ok (.iload_n 1, 1) := by decide +kernel
theorem dX5_buildLoop_37 : decode cX5_buildLoop 37 = .ok (.invokevirtual 79, 3) := by decide +kernel
theorem dX5_buildLoop_40 : decode cX5_buildLoop 40 = .ok (.ifCond .eq 50, 3) := by decide +kernel
theorem dX5_buildLoop_43 : decode cX5_buildLoop 43 = .ok (.aload_n 0, 1) := by decide +kernel
theorem dX5_buildLoop_44 : decode cX5_buildLoop 44 = .ok (.iconst 4, 1) := by decide +kernel
theorem dX5_buildLoop_45 : decode cX5_buildLoop 45 = .ok (.iconst (-1), 1) := by decide +kernel
theorem dX5_buildLoop_46 : decode cX5_buildLoop 46 = .ok (.iconst (-1), 1) := by decide +kernel
theorem dX5_buildLoop_47 : decode cX5_buildLoop 47 = .ok (.iconst (-1), 1) := by decide +kernel
theorem dX5_buildLoop_48 : decode cX5_buildLoop 48 = .ok (.invokevirtual 37, 3) := by decide +kernel
theorem dX5_buildLoop_51 : decode cX5_buildLoop 51 = .ok (.istore 7, 2) := by decide +kernel
theorem dX5_buildLoop_53 : decode cX5_buildLoop 53 = .ok (.aload_n 0, 1) := by decide +kernel
theorem dX5_buildLoop_54 : decode cX5_buildLoop 54 = .ok (.iconst 5, 1) := by decide +kernel
theorem dX5_buildLoop_55 : decode cX5_buildLoop 55 = .ok (.iconst (-1), 1) := by decide +kernel
theorem dX5_buildLoop_56 : decode cX5_buildLoop 56 = .ok (.iload 7, 2) := by decide +kernel
theorem dX5_buildLoop_58 : decode cX5_buildLoop 58 = .ok (.iload_n 3, 1) := by decide +kernel
theorem dX5_buildLoop_59 : decode cX5_buildLoop 59 = .ok (.iconst 1, 1) := by decide +kernel
theorem dX5_buildLoop_60 : decode cX5_buildLoop 60 = .ok (.iadd, 1) := by decide +kernel
theorem dX5_buildLoop_61 : decode cX5_buildLoop 61 = .ok (.invokevirtual 37, 3) := by decide +kernel
theorem dX5_buildLoop_64 : decode cX5_buildLoop 64 = .ok (.istore 8, 2) := by decide +kernel
theorem dX5_buildLoop_66 : decode cX5_buildLoop 66 = .ok (.aload_n 0, 1) := by decide +kernel
theorem dX5_buildLoop_67 : decode cX5_buildLoop 67 = .ok (.iload 7, 2) := by decide +kernel
theorem dX5_buildLoop_69 : decode cX5_buildLoop 69 = .ok (.aload_n 0, 1) := by decide +kernel
theorem dX5_buildLoop_70 : decode cX5_buildLoop 70 = .ok (.iload 5, 2) := by decide +kernel
theorem dX5_buildLoop_72 : decode cX5_buildLoop 72 = .ok (.iload 8, 2) := by decide +kernel
theorem dX5_buildLoop_74 : decode cX5_buildLoop 74 = .ok (.iload_n 3, 1) := by decide +kernel
theorem dX5_buildLoop_75 : decode cX5_buildLoop 75 = .ok (.iconst 1, 1) := by decide +kernel
theorem dX5_buildLoop_76 : decode cX5_buildLoop 76 = .ok (.iadd, 1) := by decide +kernel
theorem dX5_buildLoop_77 : decode cX5_buildLoop 77 = .ok (.iload 4, 2) := by decide +kernel
theorem dX5_buildLoop_79 : decode cX5_buildLoop 79 = .ok (.iconst 1, 1) := by decide +kernel
theorem dX5_buildLoop_80 : decode cX5_buildLoop 80 = .ok (.iadd, 1) := by decide +kernel
theorem dX5_buildLoop_81 : decode cX5_buildLoop 81 = .ok (.invokevirtual 41, 3) := by decide +kernel
theorem dX5_buildLoop_84 : decode cX5_buildLoop 84 = .ok (.iload_n 2, 1) := by decide +kernel
theorem dX5_buildLoop_85 : decode cX5_buildLoop 85 = .ok (.iload 6, 2) := by decide +kernel
theorem dX5_buildLoop_87 : decode cX5_buildLoop 87 = .ok (.invokevirtual 83, 3) := by decide +kernel
theorem dX5_buildLoop_90 : decode cX5_buildLoop 90 = .ok (.aload_n 0, 1) := by decide +kernel
theorem dX5_buildLoop_91 : decode cX5_buildLoop 91 = .ok (.getfield 14, 3) := by decide +kernel
theorem dX5_buildLoop_94 : decode cX5_buildLoop 94 = .ok (.iload_n 1, 1) := by decide +kernel
theorem dX5_buildLoop_95 : decode cX5_buildLoop 95 = .ok (.invokevirtual 87, 3) := by decide +kernel
theorem dX5_buildLoop_98 : decode cX5_buildLoop 98 = .ok (.istore 8, 2) := by decide +kernel
theorem dX5_buildLoop_100 : decode cX5_buildLoop 100 = .ok (.iload 8, 2) := by decide +kernel
theorem dX5_buildLoop_102 : decode cX5_buildLoop 102 = .ok (.aload_n 0, 1) := by decide +kernel
theorem dX5_buildLoop_103 : decode cX5_buildLoop 103 = .ok (.getfield 14, 3) := by decide +kernel
theorem dX5_buildLoop_106 : decode cX5_buildLoop 106 = .ok (.iload_n 1, 1) := by decide +kernel
theorem dX5_buildLoop_107 : decode cX5_buildLoop 107 = .ok (.invokevirtual 90, 3) := by decide +kernel
theorem dX5_buildLoop_110 : decode cX5_buildLoop 110 = .ok (.if_icmp .le 45, 3) := by decide +kernel
theorem dX5_buildLoop_113 : decode cX5_buildLoop 113 = .ok (.aload_n 0, 1) := by decide +kernel
theorem dX5_buildLoop_114 : decode cX5_buildLoop 114 = .ok (.iload 5, 2) := by decide +kernel
theorem dX5_buildLoop_116 : decode cX5_buildLoop 116 = .ok (.iload 7, 2) := by decide +kernel
theorem dX5_buildLoop_118 : decode cX5_buildLoop 118 = .ok (.iload_n 3, 1) := by decide +kernel
theorem dX5_buildLoop_119 : decode cX5_buildLoop 119 = .ok (.iload 4, 2) := by decide +kernel
theorem dX5_buildLoop_121 : decode cX5_buildLoop 121 = .ok (.iconst 1, 1) := by decide +kernel
theorem dX5_buildLoop_122 : decode cX5_buildLoop 122 = .ok (.iadd, 1) := by decide +kernel
theorem dX5_buildLoop_123 : decode cX5_buildLoop 123 = .ok (.invokevirtual 41, 3) := by decide +kernel
theorem dX5_buildLoop_126 : decode cX5_buildLoop 126 = .ok (.istore 9, 2) := by decide +kernel
theorem dX5_buildLoop_128 : decode cX5_buildLoop 128 = .ok (.aload_n 0, 1) := by decide +kernel
theorem dX5_buildLoop_129 : decode cX5_buildLoop 129 = .ok (.iconst 4, 1) := by decide +kernel
theorem dX5_buildLoop_130 : decode cX5_buildLoop 130 = .ok (.iconst (-1), 1) := by decide +kernel
theorem dX5_buildLoop_131 : decode cX5_buildLoop 131 = .ok (.iconst (-1), 1) := by decide +kernel
theorem dX5_buildLoop_132 : decode cX5_buildLoop 132 = .ok (.iconst (-1), 1) := by decide +kernel
theorem dX5_buildLoop_133 : decode cX5_buildLoop 133 = .ok (.invokevirtual 37, 3) := by decide +kernel
theorem dX5_buildLoop_136 : decode cX5_buildLoop 136 = .ok (.istore 7, 2) := by decide +kernel
theorem dX5_buildLoop_138 : decode cX5_buildLoop 138 = .ok (.aload_n 0, 1) := by decide +kernel
theorem dX5_buildLoop_139 : decode cX5_buildLoop 139 = .ok (.iload 7, 2) := by decide +kernel
theorem dX5_buildLoop_141 : decode cX5_buildLoop 141 = .ok (.iload 9, 2) := by decide +kernel
theorem dX5_buildLoop_143 : decode cX5_buildLoop 143 = .ok (.iload_n 2, 1) := by decide +kernel
theorem dX5_buildLoop_144 : decode cX5_buildLoop 144 = .ok (.iload 6, 2) := by decide +kernel
theorem dX5_buildLoop_146 : decode cX5_buildLoop 146 = .ok (.invokevirtual 83, 3) := by decide +kernel
theorem dX5_buildLoop_149 : decode cX5_buildLoop 149 = .ok (.iinc 8 (-1), 3) := by decide +kernel
theorem dX5_buildLoop_152 : decode cX5_buildLoop 152 = .ok (.goto (-52), 3) := by decide +kernel
theorem dX5_buildLoop_155 : decode cX5_buildLoop 155 = .ok (.iconst 0, 1) := by decide +kernel
theorem dX5_buildLoop_156 : decode cX5_buildLoop 156 = .ok (.istore 8, 2) := by decide +kernel
theorem dX5_buildLoop_158 : decode cX5_buildLoop 158 = .ok (.iload 8, 2) := by decide +kernel
theorem dX5_buildLoop_160 : decode cX5_buildLoop 160 = .ok (.aload_n 0, 1) := by decide +kernel
theorem dX5_buildLoop_161 : decode cX5_buildLoop 161 = .ok (.getfield 14, 3) := by decide +kernel
theorem dX5_buildLoop_164 : decode cX5_buildLoop 164 = .ok (.iload_n 1, 1) := by decide +kernel
theorem dX5_buildLoop_165 : decode cX5_buildLoop 165 = .ok (.invokevirtual 90, 3) := by decide +kernel
theorem dX5_buildLoop_168 : decode cX5_buildLoop 168 = .ok (.if_icmp .ge 24, 3) := by decide +kernel
theorem dX5_buildLoop_171 : decode cX5_buildLoop 171 = .ok (.aload_n 0, 1) := by decide +kernel
theorem dX5_buildLoop_172 : decode cX5_buildLoop 172 = .ok (.iload 5, 2) := by decide +kernel
theorem dX5_buildLoop_174 : decode cX5_buildLoop 174 = .ok (.iload 7, 2) := by decide +kernel
theorem dX5_buildLoop_176 : decode cX5_buildLoop 176 = .ok (.iload_n 3, 1) := by decide +kernel
theorem dX5_buildLoop_177 : decode cX5_buildLoop 177 = .ok (.iload 4, 2) := by decide +kernel
theorem dX5_buildLoop_179 : decode cX5_buildLoop 179 = .ok (.iconst 1, 1) := by decide +kernel
theorem dX5_buildLoop_180 : decode cX5_buildLoop 180 = .ok (.iadd, 1) := by decide +kernel
theorem dX5_buildLoop_181 : decode cX5_buildLoop 181 = .ok (.invokevirtual 41, 3) := by decide +kernel
theorem dX5_buildLoop_184 : decode cX5_buildLoop 184 = .ok (.istore 7, 2) := by decide +kernel
theorem dX5_buildLoop_186 : decode cX5_buildLoop 186 = .ok (.iinc 8 1, 3) := by decide +kernel
theorem dX5_buildLoop_189 : decode cX5_buildLoop 189 = .ok (.goto (-31), 3) := by decide +kernel
theorem dX5_buildLoop_192 : decode cX5_buildLoop 192 = .ok (.iload 7, 2) := by decide +kernel
theorem dX5_buildLoop_194 : decode cX5_buildLoop 194 = .ok (.ireturn, 1) := by decide +kernel
theorem dX5_buildRow_0 : decode cX5_buildRow 0 = .ok (.iload_n 2, 1) := by decide +kernel
theorem dX5_buildRow_1 : decode cX5_buildRow 1 = .ok (.istore 5, 2) := by decide +kernel
theorem dX5_buildRow_3 : decode cX5_buildRow 3 = .ok (.aload_n 0, 1) := by decide +kernel
theorem dX5_buildRow_4 : decode cX5_buildRow 4 = .ok (.getfield 14, 3) := by decide +kernel
theorem dX5_buildRow_7 : decode cX5_buildRow 7 = .ok (.iload_n 1, 1) := by decide +kernel
theorem dX5_buildRow_8 : decode cX5_buildRow 8 = .ok (.invokevirtual 73, 3) := by decide +kernel
theorem dX5_buildRow_11 : decode cX5_buildRow 11 = .ok (.istore 6, 2) := by decide +kernel
theorem dX5_buildRow_13 : decode cX5_buildRow 13 = .ok (.iload 6, 2) := by decide +kernel
theorem dX5_buildRow_15 : decode cX5_buildRow 15 = .ok (.iconst (-1), 1) := by decide +kernel
theorem dX5_buildRow_16 : decode cX5_buildRow 16 = .ok (.if_icmp .eq 32, 3) := by decide +kernel
theorem dX5_buildRow_19 : decode cX5_buildRow 19 = .ok (.aload_n 0, 1) := by decide +kernel
theorem dX5_buildRow_20 : decode cX5_buildRow 20 = .ok (.iload 6, 2) := by decide +kernel
theorem dX5_buildRow_22 : decode cX5_buildRow 22 = .ok (.iload 5, 2) := by decide +kernel
theorem dX5_buildRow_24 : decode cX5_buildRow 24 = .ok (.iload_n 3, 1) := by decide +kernel
theorem dX5_buildRow_25 : decode cX5_buildRow 25 = .ok (.iload 4, 2) := by decide +kernel
theorem dX5_buildRow_27 : decode cX5_buildRow 27 = .ok (.iconst 1, 1) := by decide +kernel
theorem dX5_buildRow_28 : decode cX5_buildRow 28 = .ok (.iadd, 1) := by decide +kernel
theorem dX5_buildRow_29 : decode cX5_buildRow 29 = .ok (.invokevirtual 41, 3) := by decide +kernel
theorem dX5_buildRow_32 : decode cX5_buildRow 32 = .ok (.istore 5, 2) := by decide +kernel
theorem dX5_buildRow_34 : decode cX5_buildRow 34 = .ok (.aload_n 0, 1) := by decide +kernel
theorem dX5_buildRow_35 : decode cX5_buildRow 35 = .ok (.getfield 14, 3) := by decide +kernel
theorem dX5_buildRow_38 : decode cX5_buildRow 38 = .ok (.iload 6, 2) := by decide +kernel
theorem dX5_buildRow_40 : decode cX5_buildRow 40 = .ok (.invokevirtual 76, 3) := by decide +kernel
theorem dX5_buildRow_43 : decode cX5_buildRow 43 = .ok (.istore 6, 2) := by decide +kernel
theorem dX5_buildRow_45 : decode cX5_buildRow 45 = .ok (.goto (-32), 3) := by decide +kernel
theorem dX5_buildRow_48 : decode cX5_buildRow 48 = .ok (.iload 5, 2) := by decide +kernel
theorem dX5_buildRow_50 : decode cX5_buildRow 50 = .ok (.ireturn, 1) := by decide +kernel
theorem dX5_has_0 : decode cX5_has 0 = .ok (.iload_n 1, 1) := by decide +kernel
theorem dX5_has_1 : decode cX5_has 1 = .ok (.ifCond .lt 15, 3) := by decide +kernel
theorem dX5_has_4 : decode cX5_has 4 = .ok (.iload_n 1, 1) := by decide +kernel
theorem dX5_has_5 : decode cX5_has 5 = .ok (.aload_n 0, 1) := by decide +kernel
theorem dX5_has_6 : decode cX5_has 6 = .ok (.getfield 33, 3) := by decide +kernel
theorem dX5_has_9 : decode cX5_has 9 = .ok (.if_icmp .ge 7, 3) := by decide +kernel
theorem dX5_has_12 : decode cX5_has 12 = .ok (.iconst 1, 1) := by decide +kernel
theorem dX5_has_13 : decode cX5_has 13 = .ok (.goto 4, 3) := by decide +kernel
theorem dX5_has_16 : decode cX5_has 16 = .ok (.iconst 0, 1) := by decide +kernel
theorem dX5_has_17 : decode cX5_has 17 = .ok (.ireturn, 1) := by decide +kernel
theorem dX5_kindOf_0 : decode cX5_kindOf 0 = .ok (.iload_n 1, 1) := by decide +kernel
theorem dX5_kindOf_1 : decode cX5_kindOf 1 = .ok (.ifCond .lt 20, 3) := by decide +kernel
theorem dX5_kindOf_4 : decode cX5_kindOf 4 = .ok (.iload_n 1, 1) := by decide +kernel
theorem dX5_kindOf_5 : decode cX5_kindOf 5 = .ok (.aload_n 0, 1) := by decide +kernel
theorem dX5_kindOf_6 : decode cX5_kindOf 6 = .ok (.getfield 33, 3) := by decide +kernel
theorem dX5_kindOf_9 : decode cX5_kindOf 9 = .ok (.if_icmp .ge 12, 3) := by decide +kernel
theorem dX5_kindOf_12 : decode cX5_kindOf 12 = .ok (.aload_n 0, 1) := by decide +kernel
theorem dX5_kindOf_13 : decode cX5_kindOf 13 = .ok (.getfield 20, 3) := by decide +kernel
theorem dX5_kindOf_16 : decode cX5_kindOf 16 = .ok (.iload_n 1, 1) := by decide +kernel
theorem dX5_kindOf_17 : decode cX5_kindOf 17 = .ok (.iaload, 1) := by decide +kernel
theorem dX5_kindOf_18 : decode cX5_kindOf 18 = .ok (.goto 5, 3) := by decide +kernel
theorem dX5_kindOf_21 : decode cX5_kindOf 21 = .ok (.bipush 6, 2) := by decide +kernel
theorem dX5_kindOf_23 : decode cX5_kindOf 23 = .ok (.ireturn, 1) := by decide +kernel
theorem dX5_nextOf_0 : decode cX5_nextOf 0 = .ok (.iload_n 1, 1) := by decide +kernel
theorem dX5_nextOf_1 : decode cX5_nextOf 1 = .ok (.ifCond .lt 20, 3) := by decide +kernel
theorem dX5_nextOf_4 : decode cX5_nextOf 4 = .ok (.iload_n 1, 1) := by decide +kernel
theorem dX5_nextOf_5 : decode cX5_nextOf 5 = .ok (.aload_n 0, 1) := by decide +kernel
theorem dX5_nextOf_6 : decode cX5_nextOf 6 = .ok (.getfield 33, 3) := by decide +kernel
theorem dX5_nextOf_9 : decode cX5_nextOf 9 = .ok (.if_icmp .ge 12, 3) := by decide +kernel
theorem dX5_nextOf_12 : decode cX5_nextOf 12 = .ok (.aload_n 0, 1) := by decide +kernel
theorem dX5_nextOf_13 : decode cX5_nextOf 13 = .ok (.getfield 27, 3) := by decide +kernel
theorem dX5_nextOf_16 : decode cX5_nextOf 16 = .ok (.iload_n 1, 1) := by decide +kernel
theorem dX5_nextOf_17 : decode cX5_nextOf 17 = .ok (.iaload, 1) := by decide +kernel
theorem dX5_nextOf_18 : decode cX5_nextOf 18 = .ok (.goto 4, 3) := by decide +kernel
theorem dX5_nextOf_21 : decode cX5_nextOf 21 = .ok (.iconst (-1), 1) := by decide +kernel
theorem dX5_nextOf_22 : decode cX5_nextOf 22 = .ok (.ireturn, 1) := by decide +kernel
theorem dX5_otherOf_0 : decode cX5_otherOf 0 = .ok (.iload_n 1, 1) := by decide +kernel
theorem dX5_otherOf_1 : decode cX5_otherOf 1 = .ok (.ifCond .lt 20, 3) := by decide +kernel
theorem dX5_otherOf_4 : decode cX5_otherOf 4 = .ok (.iload_n 1, 1) := by decide +kernel
theorem dX5_otherOf_5 : decode cX5_otherOf 5 = .ok (.aload_n 0, 1) := by decide +kernel
theorem dX5_otherOf_6 : decode cX5_otherOf 6 = .ok (.getfield 33, 3) := by decide +kernel
theorem dX5_otherOf_9 : decode cX5_otherOf 9 = .ok (.if_icmp .ge 12, 3) := by decide +kernel
theorem dX5_otherOf_12 : decode cX5_otherOf 12 = .ok (.aload_n 0, 1) := by decide +kernel
theorem dX5_otherOf_13 : decode cX5_otherOf 13 = .ok (.getfield 30, 3) := by decide +kernel
theorem dX5_otherOf_16 : decode cX5_otherOf 16 = .ok (.iload_n 1, 1) := by decide +kernel
theorem dX5_otherOf_17 : decode cX5_otherOf 17 = .ok (.iaload, 1) := by decide +kernel
theorem dX5_otherOf_18 : decode cX5_otherOf 18 = .ok (.goto 4, 3) := by decide +kernel
theorem dX5_otherOf_21 : decode cX5_otherOf 21 = .ok (.iconst (-1), 1) := by decide +kernel
theorem dX5_otherOf_22 : decode cX5_otherOf 22 = .ok (.ireturn, 1) := by decide +kernel
theorem dX5_subjectOf_0 : decode cX5_subjectOf 0 = .ok (.iload_n 1, 1) := by decide +kernel
theorem dX5_subjectOf_1 : decode cX5_subjectOf 1 = .ok (.ifCond .lt 20, 3) := by decide +kernel
theorem dX5_subjectOf_4 : decode cX5_subjectOf 4 = .ok (.iload_n 1, 1) := by decide +kernel
theorem dX5_subjectOf_5 : decode cX5_subjectOf 5 = .ok (.aload_n 0, 1) := by decide +kernel
theorem dX5_subjectOf_6 : decode cX5_subjectOf 6 = .ok (.getfield 33, 3) := by decide +kernel
theorem dX5_subjectOf_9 : decode cX5_subjectOf 9 = .ok (.if_icmp .ge 12, 3) := by decide +kernel
theorem dX5_subjectOf_12 : decode cX5_subjectOf 12 = .ok (.aload_n 0, 1) := by decide +kernel
theorem dX5_subjectOf_13 : decode cX5_subjectOf 13 = .ok (.getfield 24, 3) := by decide +kernel
theorem dX5_subjectOf_16 : decode cX5_subjectOf 16 = .ok (.iload_n 1, 1) := by decide +kernel
theorem dX5_subjectOf_17 : decode cX5_subjectOf 17 = .ok (.iaload, 1) := by decide +kernel
theorem dX5_subjectOf_18 : decode cX5_subjectOf 18 = .ok (.goto 4, 3) := by decide +kernel
theorem dX5_subjectOf_21 : decode cX5_subjectOf 21 = .ok (.iconst (-1), 1) := by decide +kernel
theorem dX5_subjectOf_22 : decode cX5_subjectOf 22 = .ok (.ireturn, 1) := by decide +kernel
theorem dX5_takes_0 : decode cX5_takes 0 = .ok (.aload_n 0, 1) := by decide +kernel
theorem dX5_takes_1 : decode cX5_takes 1 = .ok (.getfield 14, 3) := by decide +kernel
theorem dX5_takes_4 : decode cX5_takes 4 = .ok (.aload_n 0, 1) := by decide +kernel
theorem dX5_takes_5 : decode cX5_takes 5 = .ok (.iload_n 1, 1) := by decide +kernel
theorem dX5_takes_6 : decode cX5_takes 6 = .ok (.invokevirtual 47, 3) := by decide +kernel
theorem dX5_takes_9 : decode cX5_takes 9 = .ok (.iload_n 2, 1) := by decide +kernel
theorem dX5_takes_10 : decode cX5_takes 10 = .ok (.invokevirtual 51, 3) := by decide +kernel
theorem dX5_takes_13 : decode cX5_takes 13 = .ok (.ireturn, 1) := by decide +kernel
theorem dX5_write_0 : decode cX5_write 0 = .ok (.aload_n 0, 1) := by decide +kernel
theorem dX5_write_1 : decode cX5_write 1 = .ok (.aload_n 1, 1) := by decide +kernel
theorem dX5_write_2 : decode cX5_write 2 = .ok (.putfield 14, 3) := by decide +kernel
theorem dX5_write_5 : decode cX5_write 5 = .ok (.aload_n 0, 1) := by decide +kernel
theorem dX5_write_6 : decode cX5_write 6 = .ok (.iconst 0, 1) := by decide +kernel
theorem dX5_write_7 : decode cX5_write 7 = .ok (.putfield 33, 3) := by decide +kernel
theorem dX5_write_10 : decode cX5_write 10 = .ok (.aload_n 0, 1) := by decide +kernel
theorem dX5_write_11 : decode cX5_write 11 = .ok (.aload_n 0, 1) := by decide +kernel
theorem dX5_write_12 : decode cX5_write 12 = .ok (.iconst 0, 1) := by decide +kernel
theorem dX5_write_13 : decode cX5_write 13 = .ok (.aload_n 0, 1) := by decide +kernel
theorem dX5_write_14 : decode cX5_write 14 = .ok (.bipush 6, 2) := by decide +kernel
theorem dX5_write_16 : decode cX5_write 16 = .ok (.iconst (-1), 1) := by decide +kernel
theorem dX5_write_17 : decode cX5_write 17 = .ok (.iconst (-1), 1) := by decide +kernel
theorem dX5_write_18 : decode cX5_write 18 = .ok (.iconst (-1), 1) := by decide +kernel
theorem dX5_write_19 : decode cX5_write 19 = .ok (.invokevirtual 37, 3) := by decide +kernel
theorem dX5_write_22 : decode cX5_write 22 = .ok (.iconst 0, 1) := by decide +kernel
theorem dX5_write_23 : decode cX5_write 23 = .ok (.iconst 0, 1) := by decide +kernel
theorem dX5_write_24 : decode cX5_write 24 = .ok (.invokevirtual 41, 3) := by decide +kernel
theorem dX5_write_27 : decode cX5_write 27 = .ok (.putfield 44, 3) := by decide +kernel
theorem dX5_write_30 : decode cX5_write 30 = .ok (.return_, 1) := by decide +kernel
theorem dX6_addPart_0 : decode cX6_addPart 0 = .ok (.aload_n 0, 1) := by decide +kernel
theorem dX6_addPart_1 : decode cX6_addPart 1 = .ok (.getfield 248, 3) := by decide +kernel
theorem dX6_addPart_4 : decode cX6_addPart 4 = .ok (.sipush 200, 3) := by decide +kernel
theorem dX6_addPart_7 : decode cX6_addPart 7 = .ok (.if_icmp .lt 4, 3) := by decide +kernel
theorem dX6_addPart_10 : decode cX6_addPart 10 = .ok (.return_, 1) := by decide +kernel
theorem dX6_addPart_11 : decode cX6_addPart 11 = .ok (.aload_n 0, 1) := by decide +kernel
theorem dX6_addPart_12 : decode cX6_addPart 12 = .ok (.getfield 248, 3) := by decide +kernel
theorem dX6_addPart_15 : decode cX6_addPart 15 = .ok (.istore_n 3, 1) := by decide +kernel
theorem dX6_addPart_16 : decode cX6_addPart 16 = .ok (.iload_n 3, 1) := by decide +kernel
theorem dX6_addPart_17 : decode cX6_addPart 17 = .ok (.ifCond .le 49, 3) := by decide +kernel
theorem dX6_addPart_20 : decode cX6_addPart 20 = .ok (.aload_n 0, 1) := by decide +kernel
theorem dX6_addPart_21 : decode cX6_addPart 21 = .ok (.getfield 57, 3) := by decide +kernel
theorem dX6_addPart_24 : decode cX6_addPart 24 = .ok (.iload_n 3, 1) := by decide +kernel
theorem dX6_addPart_25 : decode cX6_addPart 25 = .ok (.iconst 1, 1) := by decide +kernel
theorem dX6_addPart_26 : decode cX6_addPart 26 = .ok (.isub, 1) := by decide +kernel
theorem dX6_addPart_27 : decode cX6_addPart 27 = .ok (.iaload, 1) := by decide +kernel
theorem dX6_addPart_28 : decode cX6_addPart 28 = .ok (.iload_n 1, 1) := by decide +kernel
theorem dX6_addPart_29 : decode cX6_addPart 29 = .ok (.if_icmp .le 37, 3) := by decide +kernel
theorem dX6_addPart_32 : decode cX6_addPart 32 = .ok (.aload_n 0, 1) := by decide +kernel
theorem dX6_addPart_33 : decode cX6_addPart 33 = .ok (.getfield 57, 3) := by decide +kernel
theorem dX6_addPart_36 : decode cX6_addPart 36 = .ok (.iload_n 3, 1) := by decide +kernel
theorem dX6_addPart_37 : decode cX6_addPart 37 = .ok (.aload_n 0, 1) := by decide +kernel
theorem dX6_addPart_38 : decode cX6_addPart 38 = .ok (.getfield 57, 3) := by decide +kernel
theorem dX6_addPart_41 : decode cX6_addPart 41 = .ok (.iload_n 3, 1) := by decide +kernel
theorem dX6_addPart_42 : decode cX6_addPart 42 = .ok (.iconst 1, 1) := by decide +kernel
theorem dX6_addPart_43 : decode cX6_addPart 43 = .ok (.isub, 1) := by decide +kernel
theorem dX6_addPart_44 : decode cX6_addPart 44 = .ok (.iaload, 1) := by decide +kernel
theorem dX6_addPart_45 : decode cX6_addPart 45 = .ok (.iastore, 1) := by decide +kernel
theorem dX6_addPart_46 : decode cX6_addPart 46 = .ok (.aload_n 0, 1) := by decide +kernel
theorem dX6_addPart_47 : decode cX6_addPart 47 = .ok (.getfield 60, 3) := by decide +kernel
theorem dX6_addPart_50 : decode cX6_addPart 50 = .ok (.iload_n 3, 1) := by decide +kernel
theorem dX6_addPart_51 : decode cX6_addPart 51 = .ok (.aload_n 0, 1) := by decide +kernel
theorem dX6_addPart_52 : decode cX6_addPart 52 = .ok (.getfield 60, 3) := by decide +kernel
theorem dX6_addPart_55 : decode cX6_addPart 55 = .ok (.iload_n 3, 1) := by decide +kernel
theorem dX6_addPart_56 : decode cX6_addPart 56 = .ok (.iconst 1, 1) := by decide +kernel
theorem dX6_addPart_57 : decode cX6_addPart 57 = .ok (.isub, 1) := by decide +kernel
theorem dX6_addPart_58 : decode cX6_addPart 58 = .ok (.iaload, 1) := by decide +kernel
theorem dX6_addPart_59 : decode cX6_addPart 59 = .ok (.iastore, 1) := by decide +kernel
theorem dX6_addPart_60 : decode cX6_addPart 60 = .ok (.iinc 3 (-1), 3) := by decide +kernel
theorem dX6_addPart_63 : decode cX6_addPart 63 = .ok (.goto (-47), 3) := by decide +kernel
theorem dX6_addPart_66 : decode cX6_addPart 66 = .ok (.aload_n 0, 1) := by decide +kernel
theorem dX6_addPart_67 : decode cX6_addPart 67 = .ok (.getfield 57, 3) := by decide +kernel
theorem dX6_addPart_70 : decode cX6_addPart 70 = .ok (.iload_n 3, 1) := by decide +kernel
theorem dX6_addPart_71 : decode cX6_addPart 71 = .ok (.iload_n 1, 1) := by decide +kernel
theorem dX6_addPart_72 : decode cX6_addPart 72 = .ok (.iastore, 1) := by decide +kernel
theorem dX6_addPart_73 : decode cX6_addPart 73 = .ok (.aload_n 0, 1) := by decide +kernel
theorem dX6_addPart_74 : decode cX6_addPart 74 = .ok (.getfield 60, 3) := by decide +kernel
theorem dX6_addPart_77 : decode cX6_addPart 77 = .ok (.iload_n 3, 1) := by decide +kernel
theorem dX6_addPart_78 : decode cX6_addPart 78 = .ok (.iload_n 2, 1) := by decide +kernel
theorem dX6_addPart_79 : decode cX6_addPart 79 = .ok (.iastore, 1) := by decide +kernel
theorem dX6_addPart_80 : decode cX6_addPart 80 = .ok (.aload_n 0, 1) := by decide +kernel
theorem dX6_addPart_81 : decode cX6_addPart 81 = .ok (.dup, 1) := by decide +kernel
theorem dX6_addPart_82 : decode cX6_addPart 82 = .ok (.getfield 248, 3) := by decide +kernel
theorem dX6_addPart_85 : decode cX6_addPart 85 = .ok (.iconst 1, 1) := by decide +kernel
theorem dX6_addPart_86 : decode cX6_addPart 86 = .ok (.iadd, 1) := by decide +kernel
theorem dX6_addPart_87 : decode cX6_addPart 87 = .ok (.putfield 248, 3) := by decide +kernel
theorem dX6_addPart_90 : decode cX6_addPart 90 = .ok (.return_, 1) := by decide +kernel
theorem dX6_addPending_0 : decode cX6_addPending 0 = .ok (.aload_n 1, 1) := by decide +kernel
theorem dX6_addPending_1 : decode cX6_addPending 1 = .ok (.getfield 166, 3) := by decide +kernel
theorem dX6_addPending_4 : decode cX6_addPending 4 = .ok (.iconst (-1), 1) := by decide +kernel
theorem dX6_addPending_5 : decode cX6_addPending 5 = .ok (.if_icmp .ne 4, 3) := by decide +kernel
theorem dX6_addPending_8 : decode cX6_addPending 8 = .ok (.return_, 1) := by decide +kernel
theorem dX6_addPending_9 : decode cX6_addPending 9 = .ok (.aload_n 1, 1) := by decide +kernel
theorem dX6_addPending_10 : decode cX6_addPending 10 = .ok (.getfield 173, 3) := by decide +kernel
theorem dX6_addPending_13 : decode cX6_addPending 13 = .ok (.ifCond .lt 29, 3) := by decide +kernel
theorem dX6_addPending_16 : decode cX6_addPending 16 = .ok (.aload_n 1, 1) := by decide +kernel
theorem dX6_addPending_17 : decode cX6_addPending 17 = .ok (.getfield 173, 3) := by decide +kernel
theorem dX6_addPending_20 : decode cX6_addPending 20 = .ok (.sipush 256, 3) := by decide +kernel
theorem dX6_addPending_23 : decode cX6_addPending 23 = .ok (.if_icmp .ge 19, 3) := by decide +kernel
theorem dX6_addPending_26 : decode cX6_addPending 26 = .ok (.aload_n 0, 1) := by decide +kernel
theorem dX6_addPending_27 : decode cX6_addPending 27 = .ok (.getfield 27, 3) := by decide +kernel
theorem dX6_addPending_30 : decode cX6_addPending 30 = .ok (.aload_n 1, 1) := by decide +kernel
theorem dX6_addPending_31 : decode cX6_addPending 31 = .ok (.getfield 173, 3) := by decide +kernel
theorem dX6_addPending_34 : decode cX6_addPending 34 = .ok (.aload_n 1, 1) := by decide +kernel
theorem dX6_addPending_35 : decode cX6_addPending 35 = .ok (.getfield 166, 3) := by decide +kernel
theorem dX6_addPending_38 : decode cX6_addPending 38 = .ok (.iastore, 1) := by decide +kernel
theorem dX6_addPending_39 : decode cX6_addPending 39 = .ok (.goto 11, 3) := by decide +kernel
theorem dX6_addPending_42 : decode cX6_addPending 42 = .ok (.aload_n 1, 1) := by decide +kernel
theorem dX6_addPending_43 : decode cX6_addPending 43 = .ok (.aload_n 1, 1) := by decide +kernel
theorem dX6_addPending_44 : decode cX6_addPending 44 = .ok (.getfield 166, 3) := by decide +kernel
theorem dX6_addPending_47 : decode cX6_addPending 47 = .ok (.putfield 176, 3) := by decide +kernel
theorem dX6_addPending_50 : decode cX6_addPending 50 = .ok (.aload_n 1, 1) := by decide +kernel
theorem dX6_addPending_51 : decode cX6_addPending 51 = .ok (.aload_n 1, 1) := by decide +kernel
theorem dX6_addPending_52 : decode cX6_addPending 52 = .ok (.getfield 166, 3) := by decide +kernel
theorem dX6_addPending_55 : decode cX6_addPending 55 = .ok (.putfield 173, 3) := by decide +kernel
theorem dX6_addPending_58 : decode cX6_addPending 58 = .ok (.aload_n 1, 1) := by decide +kernel
theorem dX6_addPending_59 : decode cX6_addPending 59 = .ok (.dup, 1) := by decide +kernel
theorem dX6_addPending_60 : decode cX6_addPending 60 = .ok (.getfield 179, 3) := by decide +kernel
theorem dX6_addPending_63 : decode cX6_addPending 63 = .ok (.iconst 1, 1) := by decide +kernel
theorem dX6_addPending_64 : decode cX6_addPending 64 = .ok (.iadd, 1) := by decide +kernel
theorem dX6_addPending_65 : decode cX6_addPending 65 = .ok (.putfield 179, 3) := by decide +kernel
theorem dX6_addPending_68 : decode cX6_addPending 68 = .ok (.aload_n 1, 1) := by decide +kernel
theorem dX6_addPending_69 : decode cX6_addPending 69 = .ok (.iconst (-1), 1) := by decide +kernel
theorem dX6_addPending_70 : decode cX6_addPending 70 = .ok (.putfield 166, 3) := by decide +kernel
theorem dX6_addPending_73 : decode cX6_addPending 73 = .ok (.return_, 1) := by decide +kernel
theorem dX6_blame_0 : decode cX6_blame 0 = .ok (.aload_n 0, 1) := by decide +kernel
theorem dX6_blame_1 : decode cX6_blame 1 = .ok (.getfield 75, 3) := by decide +kernel
theorem dX6_blame_4 : decode cX6_blame 4 = .ok (.ifCond .ne 13, 3) := by decide +kernel
theorem dX6_blame_7 : decode cX6_blame 7 = .ok (.aload_n 0, 1) := by decide +kernel
theorem dX6_blame_8 : decode cX6_blame 8 = .ok (.iload_n 1, 1) := by decide +kernel
theorem dX6_blame_9 : decode cX6_blame 9 = .ok (.putfield 75, 3) := by decide +kernel
theorem dX6_blame_12 : decode cX6_blame 12 = .ok (.aload_n 0, 1) := by decide +kernel
theorem dX6_blame_13 : decode cX6_blame 13 = .ok (.iload_n 2, 1) := by decide +kernel
theorem dX6_blame_14 : decode cX6_blame 14 = .ok (.putfield 113, 3) := by decide +kernel
theorem dX6_blame_17 : decode cX6_blame 17 = .ok (.return_, 1) := by decide +kernel
theorem dX6_choiceOf_0 : decode cX6_choiceOf 0 = .ok (.aload_n 1, 1) := by decide +kernel
theorem dX6_choiceOf_1 : decode cX6_choiceOf 1 = .ok (.getfield 192, 3) := by decide +kernel
theorem dX6_choiceOf_4 : decode cX6_choiceOf 4 = .ok (.iconst 1, 1) := by decide +kernel
theorem dX6_choiceOf_5 : decode cX6_choiceOf 5 = .ok (.if_icmp .ne 10, 3) := by decide +kernel
theorem dX6_choiceOf_8 : decode cX6_choiceOf 8 = .ok (.aload_n 1, 1) := by decide +kernel
theorem dX6_choiceOf_9 : decode cX6_choiceOf 9 = .ok (.getfield 189, 3) := by decide +kernel
theorem dX6_choiceOf_12 : decode cX6_choiceOf 12 = .ok (.goto 16, 3) := by decide +kernel
theorem dX6_choiceOf_15 : decode cX6_choiceOf 15 = .ok (.aload_n 0, 1) := by decide +kernel
theorem dX6_choiceOf_16 : decode cX6_choiceOf 16 = .ok (.bipush 6, 2) := by decide +kernel
theorem dX6_choiceOf_18 : decode cX6_choiceOf 18 = .ok (.iconst 0, 1) := by decide +kernel
theorem dX6_choiceOf_19 : decode cX6_choiceOf 19 = .ok (.iconst 0, 1) := by decide +kernel
theorem dX6_choiceOf_20 : decode cX6_choiceOf 20 = .ok (.iconst 0, 1) := by decide +kernel
theorem dX6_choiceOf_21 : decode cX6_choiceOf 21 = .ok (.aload_n 1, 1) := by decide +kernel
theorem dX6_choiceOf_22 : decode cX6_choiceOf 22 = .ok (.getfield 189, 3) := by decide +kernel
theorem dX6_choiceOf_25 : decode cX6_choiceOf 25 = .ok (.invokevirtual 182, 3) := by decide +kernel
theorem dX6_choiceOf_28 : decode cX6_choiceOf 28 = .ok (.ireturn, 1) := by decide +kernel
theorem dX6_closeRow_0 : decode cX6_closeRow 0 = .ok (.aload_n 0, 1) := by decide +kernel
theorem dX6_closeRow_1 : decode cX6_closeRow 1 = .ok (.aload_n 1, 1) := by decide +kernel
theorem dX6_closeRow_2 : decode cX6_closeRow 2 = .ok (.invokevirtual 163, 3) := by decide +kernel
theorem dX6_closeRow_5 : decode cX6_closeRow 5 = .ok (.aload_n 1, 1) := by decide +kernel
theorem dX6_closeRow_6 : decode cX6_closeRow 6 = .ok (.getfield 179, 3) := by decide +kernel
theorem dX6_closeRow_9 : decode cX6_closeRow 9 = .ok (.iconst 1, 1) := by decide +kernel
theorem dX6_closeRow_10 : decode cX6_closeRow 10 = .ok (.if_icmp .ne 10, 3) := by decide +kernel
theorem dX6_closeRow_13 : decode cX6_closeRow 13 = .ok (.aload_n 1, 1) := by decide +kernel
theorem dX6_closeRow_14 : decode cX6_closeRow 14 = .ok (.getfield 176, 3) := by decide +kernel
theorem dX6_closeRow_17 : decode cX6_closeRow 17 = .ok (.goto 15, 3) := by decide +kernel
theorem dX6_closeRow_20 : decode cX6_closeRow 20 = .ok (.aload_n 0, 1) := by decide +kernel
theorem dX6_closeRow_21 : decode cX6_closeRow 21 = .ok (.iconst 5, 1) := by decide +kernel
theorem dX6_closeRow_22 : decode cX6_closeRow 22 = .ok (.iconst 0, 1) := by decide +kernel
theorem dX6_closeRow_23 : decode cX6_closeRow 23 = .ok (.iconst 0, 1) := by decide +kernel
theorem dX6_closeRow_24 : decode cX6_closeRow 24 = .ok (.iconst 0, 1) := by decide +kernel
theorem dX6_closeRow_25 : decode cX6_closeRow 25 = .ok (.aload_n 1, 1) := by decide +kernel
theorem dX6_closeRow_26 : decode cX6_closeRow 26 = .ok (.getfield 176, 3) := by decide +kernel
theorem dX6_closeRow_29 : decode cX6_closeRow 29 = .ok (.invokevirtual 182, 3) := by decide +kernel
theorem dX6_closeRow_32 : decode cX6_closeRow 32 = .ok (.istore_n 2, 1) := by decide +kernel
theorem dX6_closeRow_33 : decode cX6_closeRow 33 = .ok (.aload_n 1, 1) := by decide +kernel
theorem dX6_closeRow_34 : decode cX6_closeRow 34 = .ok (.getfield 186, 3) := by decide +kernel
theorem dX6_closeRow_37 : decode cX6_closeRow 37 = .ok (.ifCond .lt 26, 3) := by decide +kernel
theorem dX6_closeRow_40 : decode cX6_closeRow 40 = .ok (.aload_n 1, 1) := by decide +kernel
theorem dX6_closeRow_41 : decode cX6_closeRow 41 = .ok (.getfield 186, 3) := by decide +kernel
theorem dX6_closeRow_44 : decode cX6_closeRow 44 = .ok (.sipush 256, 3) := by decide +kernel
theorem dX6_closeRow_47 : decode cX6_closeRow 47 = .ok (.if_icmp .ge 16, 3) := by decide +kernel
theorem dX6_closeRow_50 : decode cX6_closeRow 50 = .ok (.aload_n 0, 1) := by decide +kernel
theorem dX6_closeRow_51 : decode cX6_closeRow 51 = .ok (.getfield 27, 3) := by decide +kernel
theorem dX6_closeRow_54 : decode cX6_closeRow 54 = .ok (.aload_n 1, 1) := by decide +kernel
theorem dX6_closeRow_55 : decode cX6_closeRow 55 = .ok (.getfield 186, 3) := by decide +kernel
theorem dX6_closeRow_58 : decode cX6_closeRow 58 = .ok (.iload_n 2, 1) := by decide +kernel
theorem dX6_closeRow_59 : decode cX6_closeRow 59 = .ok (.iastore, 1) := by decide +kernel
theorem dX6_closeRow_60 : decode cX6_closeRow 60 = .ok (.goto 8, 3) := by decide +kernel
theorem dX6_closeRow_63 : decode cX6_closeRow 63 = .ok (.aload_n 1, 1) := by decide +kernel
theorem dX6_closeRow_64 : decode cX6_closeRow 64 = .ok (.iload_n 2, 1) := by decide +kernel
theorem dX6_closeRow_65 : decode cX6_closeRow 65 = .ok (.putfield 189, 3) := by decide +kernel
theorem dX6_closeRow_68 : decode cX6_closeRow 68 = .ok (.aload_n 1, 1) := by decide +kernel
theorem dX6_closeRow_69 : decode cX6_closeRow 69 = .ok (.iload_n 2, 1) := by decide +kernel
theorem dX6_closeRow_70 : decode cX6_closeRow 70 = .ok (.putfield 186, 3) := by decide +kernel
theorem dX6_closeRow_73 : decode cX6_closeRow 73 = .ok (.aload_n 1, 1) := by decide +kernel
theorem dX6_closeRow_74 : decode cX6_closeRow 74 = .ok (.dup, 1) := by decide +kernel
theorem dX6_closeRow_75 : decode cX6_closeRow 75 = .ok (.getfield 192, 3) := by decide +kernel
theorem dX6_closeRow_78 : decode cX6_closeRow 78 = .ok (.iconst 1, 1) := by decide +kernel
theorem dX6_closeRow_79 : decode cX6_closeRow 79 = .ok (.iadd, 1) := by decide +kernel
theorem dX6_closeRow_80 : decode cX6_closeRow 80 = .ok (.putfield 192, 3) := by decide +kernel
theorem dX6_closeRow_83 : decode cX6_closeRow 83 = .ok (.aload_n 1, 1) := by decide +kernel
theorem dX6_closeRow_84 : decode cX6_closeRow 84 = .ok (.invokevirtual 195, 3) := by decide +kernel
theorem dX6_closeRow_87 : decode cX6_closeRow 87 = .ok (.return_, 1) := by decide +kernel
theorem dX6_countItem_0 : decode cX6_countItem 0 = .ok (.aload_n 0, 1) := by decide +kernel
theorem dX6_countItem_1 : decode cX6_countItem 1 = .ok (.dup, 1) := by decide +kernel
theorem dX6_countItem_2 : decode cX6_countItem 2 = .ok (.getfield 117, 3) := by decide +kernel
theorem dX6_countItem_5 : decode cX6_countItem 5 = .ok (.iconst 1, 1) := by decide +kernel
theorem dX6_countItem_6 : decode cX6_countItem 6 = .ok (.iadd, 1) := by decide +kernel
theorem dX6_countItem_7 : decode cX6_countItem 7 = .ok (.putfield 117, 3) := by decide +kernel
theorem dX6_countItem_10 : decode cX6_countItem 10 = .ok (.aload_n 0, 1) := by decide +kernel
theorem dX6_countItem_11 : decode cX6_countItem 11 = .ok (.getfield 117, 3) := by decide +kernel
theorem dX6_countItem_14 : decode cX6_countItem 14 = .ok (.bipush 100, 2) := by decide +kernel
theorem dX6_countItem_16 : decode cX6_countItem 16 = .ok (.if_icmp .le 12, 3) := by decide +kernel
theorem dX6_countItem_19 : decode cX6_countItem 19 = .ok (.aload_n 0, 1) := by decide +kernel
theorem dX6_countItem_20 : decode cX6_countItem 20 = .ok (.iconst 2, 1) := by decide +kernel
theorem dX6_countItem_21 : decode cX6_countItem 21 = .ok (.aload_n 0, 1) := by decide +kernel
theorem dX6_countItem_22 : decode cX6_countItem 22 = .ok (.getfield 68, 3) := by decide +kernel
theorem dX6_countItem_25 : decode cX6_countItem 25 = .ok (.invokevirtual 88, 3) := by decide +kernel
theorem dX6_countItem_28 : decode cX6_countItem 28 = .ok (.aload_n 0, 1) := by decide +kernel
theorem dX6_countItem_29 : decode cX6_countItem 29 = .ok (.getfield 75, 3) := by decide +kernel
theorem dX6_countItem_32 : decode cX6_countItem 32 = .ok (.ifCond .ne 7, 3) := by decide +kernel
theorem dX6_countItem_35 : decode cX6_countItem 35 = .ok (.iconst 1, 1) := by decide +kernel
theorem dX6_countItem_36 : decode cX6_countItem 36 = .ok (.goto 4, 3) := by decide +kernel
theorem dX6_countItem_39 : decode cX6_countItem 39 = .ok (.iconst 0, 1) := by decide +kernel
theorem dX6_countItem_40 : decode cX6_countItem 40 = .ok (.ireturn, 1) := by decide +kernel
theorem dX6_here_0 : decode cX6_here 0 = .ok (.aload_n 0, 1) := by decide +kernel
theorem dX6_here_1 : decode cX6_here 1 = .ok (.getfield 41, 3) := by decide +kernel
theorem dX6_here_4 : decode cX6_here 4 = .ok (.aload_n 0, 1) := by decide +kernel
theorem dX6_here_5 : decode cX6_here 5 = .ok (.getfield 68, 3) := by decide +kernel
theorem dX6_here_8 : decode cX6_here 8 = .ok (.invokevirtual 128, 3) := by decide +kernel
theorem dX6_here_11 : decode cX6_here 11 = .ok (.ireturn, 1) := by decide +kernel
theorem dX6_lay_0 : decode cX6_lay 0 = .ok (.iload_n 1, 1) := by decide +kernel
theorem dX6_lay_1 : decode cX6_lay 1 = .ok (.ifCond .lt 17, 3) := by decide +kernel
theorem dX6_lay_4 : decode cX6_lay 4 = .ok (.iload_n 1, 1) := by decide +kernel
theorem dX6_lay_5 : decode cX6_lay 5 = .ok (.aload_n 0, 1) := by decide +kernel
theorem dX6_lay_6 : decode cX6_lay 6 = .ok (.getfield 116, 3) := by decide +kernel
theorem dX6_lay_9 : decode cX6_lay 9 = .ok (.if_icmp .ge 9, 3) := by decide +kernel
theorem dX6_lay_12 : decode cX6_lay 12 = .ok (.iload_n 3, 1) := by decide +kernel
theorem dX6_lay_13 : decode cX6_lay 13 = .ok (.bipush 60, 2) := by decide +kernel
theorem dX6_lay_15 : decode cX6_lay 15 = .ok (.if_icmp .le 4, 3) := by decide +kernel
theorem dX6_lay_18 : decode cX6_lay 18 = .ok (.return_, 1) := by decide +kernel
theorem dX6_lay_19 : decode cX6_lay 19 = .ok (.aload_n 0, 1) := by decide +kernel
theorem dX6_lay_20 : decode cX6_lay 20 = .ok (.getfield 50, 3) := by decide +kernel
theorem dX6_lay_23 : decode cX6_lay 23 = .ok (.aload_n 0, 1) := by decide +kernel
theorem dX6_lay_24 : decode cX6_lay 24 = .ok (.getfield 9, 3) := by decide +kernel
theorem dX6_lay_27 : decode cX6_lay 27 = .ok (.iload_n 1, 1) := by decide +kernel
theorem dX6_lay_28 : decode cX6_lay 28 = .ok (.iaload, 1) := by decide +kernel
theorem dX6_lay_29 : decode cX6_lay 29 = .ok (.aload_n 0, 1) := by decide +kernel
theorem dX6_lay_30 : decode cX6_lay 30 = .ok (.getfield 15, 3) := by decide +kernel
theorem dX6_lay_33 : decode cX6_lay 33 = .ok (.iload_n 1, 1) := by decide +kernel
theorem dX6_lay_34 : decode cX6_lay 34 = .ok (.iaload, 1) := by decide +kernel
theorem dX6_lay_35 : decode cX6_lay 35 = .ok (.aload_n 0, 1) := by decide +kernel
theorem dX6_lay_36 : decode cX6_lay 36 = .ok (.getfield 18, 3) := by decide +kernel
theorem dX6_lay_39 : decode cX6_lay 39 = .ok (.iload_n 1, 1) := by decide +kernel
theorem dX6_lay_40 : decode cX6_lay 40 = .ok (.iaload, 1) := by decide +kernel
theorem dX6_lay_41 : decode cX6_lay 41 = .ok (.aload_n 0, 1) := by decide +kernel
theorem dX6_lay_42 : decode cX6_lay 42 = .ok (.getfield 21, 3) := by decide +kernel
theorem dX6_lay_45 : decode cX6_lay 45 = .ok (.iload_n 1, 1) := by decide +kernel
theorem dX6_lay_46 : decode cX6_lay 46 = .ok (.iaload, 1) := by decide +kernel
theorem dX6_lay_47 : decode cX6_lay 47 = .ok (.iload_n 2, 1) := by decide +kernel
theorem dX6_lay_48 : decode cX6_lay 48 = .ok (.invokevirtual 285, 3) := by decide +kernel
theorem dX6_lay_51 : decode cX6_lay 51 = .ok (.istore 4, 2) := by decide +kernel
theorem dX6_lay_53 : decode cX6_lay 53 = .ok (.aload_n 0, 1) := by decide +kernel
theorem dX6_lay_54 : decode cX6_lay 54 = .ok (.getfield 24, 3) := by decide +kernel
theorem dX6_lay_57 : decode cX6_lay 57 = .ok (.iload_n 1, 1) := by decide +kernel
theorem dX6_lay_58 : decode cX6_lay 58 = .ok (.iaload, 1) := by decide +kernel
theorem dX6_lay_59 : decode cX6_lay 59 = .ok (.istore 5, 2) := by decide +kernel
theorem dX6_lay_61 : decode cX6_lay 61 = .ok (.iload 5, 2) := by decide +kernel
theorem dX6_lay_63 : decode cX6_lay 63 = .ok (.ifCond .lt 35, 3) := by decide +kernel
theorem dX6_lay_66 : decode cX6_lay 66 = .ok (.iload 5, 2) := by decide +kernel
theorem dX6_lay_68 : decode cX6_lay 68 = .ok (.aload_n 0, 1) := by decide +kernel
theorem dX6_lay_69 : decode cX6_lay 69 = .ok (.getfield 116, 3) := by decide +kernel
theorem dX6_lay_72 : decode cX6_lay 72 = .ok (.if_icmp .ge 26, 3) := by decide +kernel
theorem dX6_lay_75 : decode cX6_lay 75 = .ok (.aload_n 0, 1) := by decide +kernel
theorem dX6_lay_76 : decode cX6_lay 76 = .ok (.iload 5, 2) := by decide +kernel
theorem dX6_lay_78 : decode cX6_lay 78 = .ok (.iload 4, 2) := by decide +kernel
theorem dX6_lay_80 : decode cX6_lay 80 = .ok (.iload_n 3, 1) := by decide +kernel
theorem dX6_lay_81 : decode cX6_lay 81 = .ok (.iconst 1, 1) := by decide +kernel
theorem dX6_lay_82 : decode cX6_lay 82 = .ok (.iadd, 1) := by decide +kernel
theorem dX6_lay_83 : decode cX6_lay 83 = .ok (.invokevirtual 103, 3) := by decide +kernel
theorem dX6_lay_86 : decode cX6_lay 86 = .ok (.aload_n 0, 1) := by decide +kernel
theorem dX6_lay_87 : decode cX6_lay 87 = .ok (.getfield 27, 3) := by decide +kernel
theorem dX6_lay_90 : decode cX6_lay 90 = .ok (.iload 5, 2) := by decide +kernel
theorem dX6_lay_92 : decode cX6_lay 92 = .ok (.iaload, 1) := by decide +kernel
theorem dX6_lay_93 : decode cX6_lay 93 = .ok (.istore 5, 2) := by decide +kernel
theorem dX6_lay_95 : decode cX6_lay 95 = .ok (.goto (-34), 3) := by decide +kernel
theorem dX6_lay_98 : decode cX6_lay 98 = .ok (.aload_n 0, 1) := by decide +kernel
theorem dX6_lay_99 : decode cX6_lay 99 = .ok (.getfield 50, 3) := by decide +kernel
theorem dX6_lay_102 : decode cX6_lay 102 = .ok (.iload 4, 2) := by decide +kernel
theorem dX6_lay_104 : decode cX6_lay 104 = .ok (.invokevirtual 288, 3) := by decide +kernel
theorem dX6_lay_107 : decode cX6_lay 107 = .ok (.return_, 1) := by decide +kernel
theorem dX6_lookOfMark_0 : decode cX6_lookOfMark 0 = .ok (.iload_n 0, 1) := by decide +kernel
theorem dX6_lookOfMark_1 : decode cX6_lookOfMark 1 = .ok (.lookupswitch 41 #[(33, 35), (60, 37), (126, 39)], 35) := by decide +kernel
theorem dX6_lookOfMark_36 : decode cX6_lookOfMark 36 = .ok (.iconst 1, 1) := by decide +kernel
theorem dX6_lookOfMark_37 : decode cX6_lookOfMark 37 = .ok (.ireturn, 1) := by decide +kernel
theorem dX6_lookOfMark_38 : decode cX6_lookOfMark 38 = .ok (.iconst 2, 1) := by decide +kernel
theorem dX6_lookOfMark_39 : decode cX6_lookOfMark 39 = .ok (.ireturn, 1) := by decide +kernel
theorem dX6_lookOfMark_40 : decode cX6_lookOfMark 40 = .ok (.iconst 3, 1) := by decide +kernel
theorem dX6_lookOfMark_41 : decode cX6_lookOfMark 41 = .ok (.ireturn, 1) := by decide +kernel
theorem dX6_lookOfMark_42 : decode cX6_lookOfMark 42 = .ok (.iconst 0, 1) := by decide +kernel
theorem dX6_lookOfMark_43 : decode cX6_lookOfMark 43 = .ok (.ireturn, 1) := by decide +kernel
theorem dX6_make_0 : decode cX6_make 0 = .ok (.aload_n 0, 1) := by decide +kernel
theorem dX6_make_1 : decode cX6_make 1 = .ok (.getfield 116, 3) := by decide +kernel
theorem dX6_make_4 : decode cX6_make 4 = .ok (.sipush 256, 3) := by decide +kernel
theorem dX6_make_7 : decode cX6_make 7 = .ok (.if_icmp .lt 14, 3) := by decide +kernel
theorem dX6_make_10 : decode cX6_make 10 = .ok (.aload_n 0, 1) := by decide +kernel
theorem dX6_make_11 : decode cX6_make 11 = .ok (.iconst 2, 1) := by decide +kernel
theorem dX6_make_12 : decode cX6_make 12 = .ok (.aload_n 0, 1) := by decide +kernel
theorem dX6_make_13 : decode cX6_make 13 = .ok (.getfield 68, 3) := by decide +kernel
theorem dX6_make_16 : decode cX6_make 16 = .ok (.invokevirtual 88, 3) := by decide +kernel
theorem dX6_make_19 : decode cX6_make 19 = .ok (.iconst 0, 1) := by decide +kernel
theorem dX6_make_20 : decode cX6_make 20 = .ok (.ireturn, 1) := by decide +kernel
theorem dX6_make_21 : decode cX6_make 21 = .ok (.aload_n 0, 1) := by decide +kernel
theorem dX6_make_22 : decode cX6_make 22 = .ok (.getfield 116, 3) := by decide +kernel
theorem dX6_make_25 : decode cX6_make 25 = .ok (.istore 5, 2) := by decide +kernel
theorem dX6_make_27 : decode cX6_make 27 = .ok (.aload_n 0, 1) := by decide +kernel
theorem dX6_make_28 : decode cX6_make 28 = .ok (.dup, 1) := by decide +kernel
theorem dX6_make_29 : decode cX6_make 29 = .ok (.getfield 116, 3) := by decide +kernel
theorem dX6_make_32 : decode cX6_make 32 = .ok (.iconst 1, 1) := by decide +kernel
theorem dX6_make_33 : decode cX6_make 33 = .ok (.iadd, 1) := by decide +kernel
theorem dX6_make_34 : decode cX6_make 34 = .ok (.putfield 116, 3) := by decide +kernel
theorem dX6_make_37 : decode cX6_make 37 = .ok (.aload_n 0, 1) := by decide +kernel
theorem dX6_make_38 : decode cX6_make 38 = .ok (.getfield 9, 3) := by decide +kernel
theorem dX6_make_41 : decode cX6_make 41 = .ok (.iload 5, 2) := by decide +kernel
theorem dX6_make_43 : decode cX6_make 43 = .ok (.iload_n 1, 1) := by decide +kernel
theorem dX6_make_44 : decode cX6_make 44 = .ok (.iastore, 1) := by decide +kernel
theorem dX6_make_45 : decode cX6_make 45 = .ok (.aload_n 0, 1) := by decide +kernel
theorem dX6_make_46 : decode cX6_make 46 = .ok (.getfield 15, 3) := by decide +kernel
theorem dX6_make_49 : decode cX6_make 49 = .ok (.iload 5, 2) := by decide +kernel
theorem dX6_make_51 : decode cX6_make 51 = .ok (.iload_n 2, 1) := by decide +kernel
theorem dX6_make_52 : decode cX6_make 52 = .ok (.iastore, 1) := by decide +kernel
theorem dX6_make_53 : decode cX6_make 53 = .ok (.aload_n 0, 1) := by decide +kernel
theorem dX6_make_54 : decode cX6_make 54 = .ok (.getfield 18, 3) := by decide +kernel
theorem dX6_make_57 : decode cX6_make 57 = .ok (.iload 5, 2) := by decide +kernel
theorem dX6_make_59 : decode cX6_make 59 = .ok (.iload_n 3, 1) := by decide +kernel
theorem dX6_make_60 : decode cX6_make 60 = .ok (.iastore, 1) := by decide +kernel
theorem dX6_make_61 : decode cX6_make 61 = .ok (.aload_n 0, 1) := by decide +kernel
theorem dX6_make_62 : decode cX6_make 62 = .ok (.getfield 21, 3) := by decide +kernel
theorem dX6_make_65 : decode cX6_make 65 = .ok (.iload 5, 2) := by decide +kernel
theorem dX6_make_67 : decode cX6_make 67 = .ok (.iload 4, 2) := by decide +kernel
theorem dX6_make_69 : decode cX6_make 69 = .ok (.iastore, 1) := by decide +kernel
theorem dX6_make_70 : decode cX6_make 70 = .ok (.aload_n 0, 1) := by decide +kernel
theorem dX6_make_71 : decode cX6_make 71 = .ok (.getfield 24, 3) := by decide +kernel
theorem dX6_make_74 : decode cX6_make 74 = .ok (.iload 5, 2) := by decide +kernel
theorem dX6_make_76 : decode cX6_make 76 = .ok (.iconst (-1), 1) := by decide +kernel
theorem dX6_make_77 : decode cX6_make 77 = .ok (.iastore, 1) := by decide +kernel
theorem dX6_make_78 : decode cX6_make 78 = .ok (.aload_n 0, 1) := by decide +kernel
theorem dX6_make_79 : decode cX6_make 79 = .ok (.getfield 27, 3) := by decide +kernel
theorem dX6_make_82 : decode cX6_make 82 = .ok (.iload 5, 2) := by decide +kernel
theorem dX6_make_84 : decode cX6_make 84 = .ok (.iconst (-1), 1) := by decide +kernel
theorem dX6_make_85 : decode cX6_make 85 = .ok (.iastore, 1) := by decide +kernel
theorem dX6_make_86 : decode cX6_make 86 = .ok (.iload 5, 2) := by decide +kernel
theorem dX6_make_88 : decode cX6_make 88 = .ok (.ireturn, 1) := by decide +kernel
theorem dX6_makeRound_0 : decode cX6_makeRound 0 = .ok (.aload_n 0, 1) := by decide +kernel
theorem dX6_makeRound_1 : decode cX6_makeRound 1 = .ok (.iload_n 1, 1) := by decide +kernel
theorem dX6_makeRound_2 : decode cX6_makeRound 2 = .ok (.iload_n 2, 1) := by decide +kernel
theorem dX6_makeRound_3 : decode cX6_makeRound 3 = .ok (.iload_n 3, 1) := by decide +kernel
theorem dX6_makeRound_4 : decode cX6_makeRound 4 = .ok (.iload 4, 2) := by decide +kernel
theorem dX6_makeRound_6 : decode cX6_makeRound 6 = .ok (.invokevirtual 156, 3) := by decide +kernel
theorem dX6_makeRound_9 : decode cX6_makeRound 9 = .ok (.istore 6, 2) := by decide +kernel
theorem dX6_makeRound_11 : decode cX6_makeRound 11 = .ok (.aload_n 0, 1) := by decide +kernel
theorem dX6_makeRound_12 : decode cX6_makeRound 12 = .ok (.getfield 24, 3) := by decide +kernel
theorem dX6_makeRound_15 : decode cX6_makeRound 15 = .ok (.iload 6, 2) := by decide +kernel
theorem dX6_makeRound_17 : decode cX6_makeRound 17 = .ok (.iload 5, 2) := by decide +kernel
theorem dX6_makeRound_19 : decode cX6_makeRound 19 = .ok (.iastore, 1) := by decide +kernel
theorem dX6_makeRound_20 : decode cX6_makeRound 20 = .ok (.iload 6, 2) := by decide +kernel
theorem dX6_makeRound_22 : decode cX6_makeRound 22 = .ok (.ireturn, 1) := by decide +kernel
theorem dX6_makeSet_0 : decode cX6_makeSet 0 = .ok (.aload_n 0, 1) := by decide +kernel
theorem dX6_makeSet_1 : decode cX6_makeSet 1 = .ok (.getfield 50, 3) := by decide +kernel
theorem dX6_makeSet_4 : decode cX6_makeSet 4 = .ok (.invokevirtual 273, 3) := by decide +kernel
theorem dX6_makeSet_7 : decode cX6_makeSet 7 = .ok (.istore_n 2, 1) := by decide +kernel
theorem dX6_makeSet_8 : decode cX6_makeSet 8 = .ok (.aload_n 0, 1) := by decide +kernel
theorem dX6_makeSet_9 : decode cX6_makeSet 9 = .ok (.getfield 57, 3) := by decide +kernel
theorem dX6_makeSet_12 : decode cX6_makeSet 12 = .ok (.iconst 0, 1) := by decide +kernel
theorem dX6_makeSet_13 : decode cX6_makeSet 13 = .ok (.iaload, 1) := by decide +kernel
theorem dX6_makeSet_14 : decode cX6_makeSet 14 = .ok (.istore_n 3, 1) := by decide +kernel
theorem dX6_makeSet_15 : decode cX6_makeSet 15 = .ok (.aload_n 0, 1) := by decide +kernel
theorem dX6_makeSet_16 : decode cX6_makeSet 16 = .ok (.getfield 60, 3) := by decide +kernel
theorem dX6_makeSet_19 : decode cX6_makeSet 19 = .ok (.iconst 0, 1) := by decide +kernel
theorem dX6_makeSet_20 : decode cX6_makeSet 20 = .ok (.iaload, 1) := by decide +kernel
theorem dX6_makeSet_21 : decode cX6_makeSet 21 = .ok (.istore 4, 2) := by decide +kernel
theorem dX6_makeSet_23 : decode cX6_makeSet 23 = .ok (.iconst 1, 1) := by decide +kernel
theorem dX6_makeSet_24 : decode cX6_makeSet 24 = .ok (.istore 5, 2) := by decide +kernel
theorem dX6_makeSet_26 : decode cX6_makeSet 26 = .ok (.iload 5, 2) := by decide +kernel
theorem dX6_makeSet_28 : decode cX6_makeSet 28 = .ok (.aload_n 0, 1) := by decide +kernel
theorem dX6_makeSet_29 : decode cX6_makeSet 29 = .ok (.getfield 248, 3) := by decide +kernel
theorem dX6_makeSet_32 : decode cX6_makeSet 32 = .ok (.if_icmp .ge 75, 3) := by decide +kernel
theorem dX6_makeSet_35 : decode cX6_makeSet 35 = .ok (.iload 5, 2) := by decide +kernel
theorem dX6_makeSet_37 : decode cX6_makeSet 37 = .ok (.sipush 200, 3) := by decide +kernel
theorem dX6_makeSet_40 : decode cX6_makeSet 40 = .ok (.if_icmp .ge 67, 3) := by decide +kernel
theorem dX6_makeSet_43 : decode cX6_makeSet 43 = .ok (.aload_n 0, 1) := by decide +kernel
theorem dX6_makeSet_44 : decode cX6_makeSet 44 = .ok (.getfield 57, 3) := by decide +kernel
theorem dX6_makeSet_47 : decode cX6_makeSet 47 = .ok (.iload 5, 2) := by decide +kernel
theorem dX6_makeSet_49 : decode cX6_makeSet 49 = .ok (.iaload, 1) := by decide +kernel
theorem dX6_makeSet_50 : decode cX6_makeSet 50 = .ok (.iload 4, 2) := by decide +kernel
theorem dX6_makeSet_52 : decode cX6_makeSet 52 = .ok (.iconst 1, 1) := by decide +kernel
theorem dX6_makeSet_53 : decode cX6_makeSet 53 = .ok (.iadd, 1) := by decide +kernel
theorem dX6_makeSet_54 : decode cX6_makeSet 54 = .ok (.if_icmp .le 33, 3) := by decide +kernel
theorem dX6_makeSet_57 : decode cX6_makeSet 57 = .ok (.aload_n 0, 1) := by decide +kernel
theorem dX6_makeSet_58 : decode cX6_makeSet 58 = .ok (.getfield 50, 3) := by decide +kernel
theorem dX6_makeSet_61 : decode cX6_makeSet 61 = .ok (.iload_n 3, 1) := by decide +kernel
theorem dX6_makeSet_62 : decode cX6_makeSet 62 = .ok (.iload 4, 2) := by decide +kernel
theorem dX6_makeSet_64 : decode cX6_makeSet 64 = .ok (.invokevirtual 276, 3) := by decide +kernel
theorem dX6_makeSet_67 : decode cX6_makeSet 67 = .ok (.aload_n 0, 1) := by decide +kernel
theorem dX6_makeSet_68 : decode cX6_makeSet 68 = .ok (.getfield 57, 3) := by decide +kernel
theorem dX6_makeSet_71 : decode cX6_makeSet 71 = .ok (.iload 5, 2) := by decide +kernel
theorem dX6_makeSet_73 : decode cX6_makeSet 73 = .ok (.iaload, 1) := by decide +kernel
theorem dX6_makeSet_74 : decode cX6_makeSet 74 = .ok (.istore_n 3, 1) := by decide +kernel
theorem dX6_makeSet_75 : decode cX6_makeSet 75 = .ok (.aload_n 0, 1) := by decide +kernel
theorem dX6_makeSet_76 : decode cX6_makeSet 76 = .ok (.getfield 60, 3) := by decide +kernel
theorem dX6_makeSet_79 : decode cX6_makeSet 79 = .ok (.iload 5, 2) := by decide +kernel
theorem dX6_makeSet_81 : decode cX6_makeSet 81 = .ok (.iaload, 1) := by decide +kernel
theorem dX6_makeSet_82 : decode cX6_makeSet 82 = .ok (.istore 4, 2) := by decide +kernel
theorem dX6_makeSet_84 : decode cX6_makeSet 84 = .ok (.goto 17, 3) := by decide +kernel
theorem dX6_makeSet_87 : decode cX6_makeSet 87 = .ok (.iload 4, 2) := by decide +kernel
theorem dX6_makeSet_89 : decode cX6_makeSet 89 = .ok (.aload_n 0, 1) := by decide +kernel
theorem dX6_makeSet_90 : decode cX6_makeSet 90 = .ok (.getfield 60, 3) := by decide +kernel
theorem dX6_makeSet_93 : decode cX6_makeSet 93 = .ok (.iload 5, 2) := by decide +kernel
theorem dX6_makeSet_95 : decode cX6_makeSet 95 = .ok (.iaload, 1) := by decide +kernel
theorem dX6_makeSet_96 : decode cX6_makeSet 96 = .ok (.invokestatic 279, 3) := by decide +kernel
theorem dX6_makeSet_99 : decode cX6_makeSet 99 = .ok (.istore 4, 2) := by decide +kernel
theorem dX6_makeSet_101 : decode cX6_makeSet 101 = .ok (.iinc 5 1, 3) := by decide +kernel
theorem dX6_makeSet_104 : decode cX6_makeSet 104 = .ok (.goto (-78), 3) := by decide +kernel
theorem dX6_makeSet_107 : decode cX6_makeSet 107 = .ok (.aload_n 0, 1) := by decide +kernel
theorem dX6_makeSet_108 : decode cX6_makeSet 108 = .ok (.getfield 50, 3) := by decide +kernel
theorem dX6_makeSet_111 : decode cX6_makeSet 111 = .ok (.iload_n 3, 1) := by decide +kernel
theorem dX6_makeSet_112 : decode cX6_makeSet 112 = .ok (.iload 4, 2) := by decide +kernel
theorem dX6_makeSet_114 : decode cX6_makeSet 114 = .ok (.invokevirtual 276, 3) := by decide +kernel
theorem dX6_makeSet_117 : decode cX6_makeSet 117 = .ok (.aload_n 0, 1) := by decide +kernel
theorem dX6_makeSet_118 : decode cX6_makeSet 118 = .ok (.iconst 2, 1) := by decide +kernel
theorem dX6_makeSet_119 : decode cX6_makeSet 119 = .ok (.iload_n 1, 1) := by decide +kernel
theorem dX6_makeSet_120 : decode cX6_makeSet 120 = .ok (.ifCond .eq 7, 3) := by decide +kernel
theorem dX6_makeSet_123 : decode cX6_makeSet 123 = .ok (.iconst 1, 1) := by decide +kernel
theorem dX6_makeSet_124 : decode cX6_makeSet 124 = .ok (.goto 4, 3) := by decide +kernel
theorem dX6_makeSet_127 : decode cX6_makeSet 127 = .ok (.iconst 0, 1) := by decide +kernel
theorem dX6_makeSet_128 : decode cX6_makeSet 128 = .ok (.iload_n 2, 1) := by decide +kernel
theorem dX6_makeSet_129 : decode cX6_makeSet 129 = .ok (.aload_n 0, 1) := by decide +kernel
theorem dX6_makeSet_130 : decode cX6_makeSet 130 = .ok (.getfield 50, 3) := by decide +kernel
theorem dX6_makeSet_133 : decode cX6_makeSet 133 = .ok (.invokevirtual 273, 3) := by decide +kernel
theorem dX6_makeSet_136 : decode cX6_makeSet 136 = .ok (.iload_n 2, 1) := by decide +kernel
theorem dX6_makeSet_137 : decode cX6_makeSet 137 = .ok (.isub, 1) := by decide +kernel
theorem dX6_makeSet_138 : decode cX6_makeSet 138 = .ok (.invokevirtual 156, 3) := by decide +kernel
theorem dX6_makeSet_141 : decode cX6_makeSet 141 = .ok (.ireturn, 1) := by decide +kernel
theorem dX6_readHex_0 : decode cX6_readHex 0 = .ok (.iconst 0, 1) := by decide +kernel
theorem dX6_readHex_1 : decode cX6_readHex 1 = .ok (.istore_n 1, 1) := by decide +kernel
theorem dX6_readHex_2 : decode cX6_readHex 2 = .ok (.iconst 0, 1) := by decide +kernel
theorem dX6_readHex_3 : decode cX6_readHex 3 = .ok (.istore_n 2, 1) := by decide +kernel
theorem dX6_readHex_4 : decode cX6_readHex 4 = .ok (.iload_n 2, 1) := by decide +kernel
theorem dX6_readHex_5 : decode cX6_readHex 5 = .ok (.iconst 4, 1) := by decide +kernel
theorem dX6_readHex_6 : decode cX6_readHex 6 = .ok (.if_icmp .ge 90, 3) := by decide +kernel
theorem dX6_readHex_9 : decode cX6_readHex 9 = .ok (.aload_n 0, 1) := by decide +kernel
theorem dX6_readHex_10 : decode cX6_readHex 10 = .ok (.getfield 41, 3) := by decide +kernel
theorem dX6_readHex_13 : decode cX6_readHex 13 = .ok (.aload_n 0, 1) := by decide +kernel
theorem dX6_readHex_14 : decode cX6_readHex 14 = .ok (.getfield 68, 3) := by decide +kernel
theorem dX6_readHex_17 : decode cX6_readHex 17 = .ok (.invokevirtual 128, 3) := by decide +kernel
theorem dX6_readHex_20 : decode cX6_readHex 20 = .ok (.istore_n 3, 1) := by decide +kernel
theorem dX6_readHex_21 : decode cX6_readHex 21 = .ok (.iload_n 3, 1) := by decide +kernel
theorem dX6_readHex_22 : decode cX6_readHex 22 = .ok (.invokestatic 230, 3) := by decide +kernel
theorem dX6_readHex_25 : decode cX6_readHex 25 = .ok (.ifCond .eq 16, 3) := by decide +kernel
theorem dX6_readHex_28 : decode cX6_readHex 28 = .ok (.iload_n 1, 1) := by decide +kernel
theorem dX6_readHex_29 : decode cX6_readHex 29 = .ok (.bipush 16, 2) := by decide +kernel
theorem dX6_readHex_31 : decode cX6_readHex 31 = .ok (.imul, 1) := by decide +kernel
theorem dX6_readHex_32 : decode cX6_readHex 32 = .ok (.iload_n 3, 1) := by decide +kernel
theorem dX6_readHex_33 : decode cX6_readHex 33 = .ok (.iadd, 1) := by decide +kernel
theorem dX6_readHex_34 : decode cX6_readHex 34 = .ok (.bipush 48, 2) := by decide +kernel
theorem dX6_readHex_36 : decode cX6_readHex 36 = .ok (.isub, 1) := by decide +kernel
theorem dX6_readHex_37 : decode cX6_readHex 37 = .ok (.istore_n 1, 1) := by decide +kernel
theorem dX6_readHex_38 : decode cX6_readHex 38 = .ok (.goto 42, 3) := by decide +kernel
theorem dX6_readHex_41 : decode cX6_readHex 41 = .ok (.iload_n 3, 1) := by decide +kernel
theorem dX6_readHex_42 : decode cX6_readHex 42 = .ok (.bipush 97, 2) := by decide +kernel
theorem dX6_readHex_44 : decode cX6_readHex 44 = .ok (.if_icmp .lt 25, 3) := by decide +kernel
theorem dX6_readHex_47 : decode cX6_readHex 47 = .ok (.iload_n 3, 1) := by decide +kernel
theorem dX6_readHex_48 : decode cX6_readHex 48 = .ok (.bipush 102, 2) := by decide +kernel
theorem dX6_readHex_50 : decode cX6_readHex 50 = .ok (.if_icmp .gt 19, 3) := by decide +kernel
theorem dX6_readHex_53 : decode cX6_readHex 53 = .ok (.iload_n 1, 1) := by decide +kernel
theorem dX6_readHex_54 : decode cX6_readHex 54 = .ok (.bipush 16, 2) := by decide +kernel
theorem dX6_readHex_56 : decode cX6_readHex 56 = .ok (.imul, 1) := by decide +kernel
theorem dX6_readHex_57 : decode cX6_readHex 57 = .ok (.iload_n 3, 1) := by decide +kernel
theorem dX6_readHex_58 : decode cX6_readHex 58 = .ok (.iadd, 1) := by decide +kernel
theorem dX6_readHex_59 : decode cX6_readHex 59 = .ok (.bipush 97, 2) := by decide +kernel
theorem dX6_readHex_61 : decode cX6_readHex 61 = .ok (.isub, 1) := by decide +kernel
theorem dX6_readHex_62 : decode cX6_readHex 62 = .ok (.bipush 10, 2) := by decide +kernel
theorem dX6_readHex_64 : decode cX6_readHex 64 = .ok (.iadd, 1) := by decide +kernel
theorem dX6_readHex_65 : decode cX6_readHex 65 = .ok (.istore_n 1, 1) := by decide +kernel
theorem dX6_readHex_66 : decode cX6_readHex 66 = .ok (.goto 14, 3) := by decide +kernel
theorem dX6_readHex_69 : decode cX6_readHex 69 = .ok (.aload_n 0, 1) := by decide +kernel
theorem dX6_readHex_70 : decode cX6_readHex 70 = .ok (.iconst 1, 1) := by decide +kernel
theorem dX6_readHex_71 : decode cX6_readHex 71 = .ok (.aload_n 0, 1) := by decide +kernel
theorem dX6_readHex_72 : decode cX6_readHex 72 = .ok (.getfield 68, 3) := by decide +kernel
theorem dX6_readHex_75 : decode cX6_readHex 75 = .ok (.invokevirtual 88, 3) := by decide +kernel
theorem dX6_readHex_78 : decode cX6_readHex 78 = .ok (.iconst 0, 1) := by decide +kernel
theorem dX6_readHex_79 : decode cX6_readHex 79 = .ok (.ireturn, 1) := by decide +kernel
theorem dX6_readHex_80 : decode cX6_readHex 80 = .ok (.aload_n 0, 1) := by decide +kernel
theorem dX6_readHex_81 : decode cX6_readHex 81 = .ok (.dup, 1) := by decide +kernel
theorem dX6_readHex_82 : decode cX6_readHex 82 = .ok (.getfield 68, 3) := by decide +kernel
theorem dX6_readHex_85 : decode cX6_readHex 85 = .ok (.iconst 1, 1) := by decide +kernel
theorem dX6_readHex_86 : decode cX6_readHex 86 = .ok (.iadd, 1) := by decide +kernel
theorem dX6_readHex_87 : decode cX6_readHex 87 = .ok (.putfield 68, 3) := by decide +kernel
theorem dX6_readHex_90 : decode cX6_readHex 90 = .ok (.iinc 2 1, 3) := by decide +kernel
theorem dX6_readHex_93 : decode cX6_readHex 93 = .ok (.goto (-89), 3) := by decide +kernel
theorem dX6_readHex_96 : decode cX6_readHex 96 = .ok (.iload_n 1, 1) := by decide +kernel
theorem dX6_readHex_97 : decode cX6_readHex 97 = .ok (.ireturn, 1) := by decide +kernel
theorem dX6_readMember_0 : decode cX6_readMember 0 = .ok (.aload_n 0, 1) := by decide +kernel
theorem dX6_readMember_1 : decode cX6_readMember 1 = .ok (.invokevirtual 78, 3) := by decide +kernel
theorem dX6_readMember_4 : decode cX6_readMember 4 = .ok (.istore_n 1, 1) := by decide +kernel
theorem dX6_readMember_5 : decode cX6_readMember 5 = .ok (.iload_n 1, 1) := by decide +kernel
theorem dX6_readMember_6 : decode cX6_readMember 6 = .ok (.bipush 92, 2) := by decide +kernel
theorem dX6_readMember_8 : decode cX6_readMember 8 = .ok (.if_icmp .ne 72, 3) := by decide +kernel
theorem dX6_readMember_11 : decode cX6_readMember 11 = .ok (.aload_n 0, 1) := by decide +kernel
theorem dX6_readMember_12 : decode cX6_readMember 12 = .ok (.dup, 1) := by decide +kernel
theorem dX6_readMember_13 : decode cX6_readMember 13 = .ok (.getfield 68, 3) := by decide +kernel
theorem dX6_readMember_16 : decode cX6_readMember 16 = .ok (.iconst 1, 1) := by decide +kernel
theorem dX6_readMember_17 : decode cX6_readMember 17 = .ok (.iadd, 1) := by decide +kernel
theorem dX6_readMember_18 : decode cX6_readMember 18 = .ok (.putfield 68, 3) := by decide +kernel
theorem dX6_readMember_21 : decode cX6_readMember 21 = .ok (.aload_n 0, 1) := by decide +kernel
theorem dX6_readMember_22 : decode cX6_readMember 22 = .ok (.invokevirtual 78, 3) := by decide +kernel
theorem dX6_readMember_25 : decode cX6_readMember 25 = .ok (.istore_n 1, 1) := by decide +kernel
theorem dX6_readMember_26 : decode cX6_readMember 26 = .ok (.iload_n 1, 1) := by decide +kernel
theorem dX6_readMember_27 : decode cX6_readMember 27 = .ok (.bipush 120, 2) := by decide +kernel
theorem dX6_readMember_29 : decode cX6_readMember 29 = .ok (.if_icmp .ne 18, 3) := by decide +kernel
theorem dX6_readMember_32 : decode cX6_readMember 32 = .ok (.aload_n 0, 1) := by decide +kernel
theorem dX6_readMember_33 : decode cX6_readMember 33 = .ok (.dup, 1) := by decide +kernel
theorem dX6_readMember_34 : decode cX6_readMember 34 = .ok (.getfield 68, 3) := by decide +kernel
theorem dX6_readMember_37 : decode cX6_readMember 37 = .ok (.iconst 1, 1) := by decide +kernel
theorem dX6_readMember_38 : decode cX6_readMember 38 = .ok (.iadd, 1) := by decide +kernel
theorem dX6_readMember_39 : decode cX6_readMember 39 = .ok (.putfield 68, 3) := by decide +kernel
theorem dX6_readMember_42 : decode cX6_readMember 42 = .ok (.aload_n 0, 1) := by decide +kernel
theorem dX6_readMember_43 : decode cX6_readMember 43 = .ok (.invokevirtual 258, 3) := by decide +kernel
theorem dX6_readMember_46 : decode cX6_readMember 46 = .ok (.ireturn, 1) := by decide +kernel
theorem dX6_readMember_47 : decode cX6_readMember 47 = .ok (.iload_n 1, 1) := by decide +kernel
theorem dX6_readMember_48 : decode cX6_readMember 48 = .ok (.invokestatic 261, 3) := by decide +kernel
theorem dX6_readMember_51 : decode cX6_readMember 51 = .ok (.ifCond .eq 17, 3) := by decide +kernel
theorem dX6_readMember_54 : decode cX6_readMember 54 = .ok (.iload_n 1, 1) := by decide +kernel
theorem dX6_readMember_55 : decode cX6_readMember 55 = .ok (.invokestatic 264, 3) := by decide +kernel
theorem dX6_readMember_58 : decode cX6_readMember 58 = .ok (.ifCond .ne 10, 3) := by decide +kernel
theorem dX6_readMember_61 : decode cX6_readMember 61 = .ok (.iload_n 1, 1) := by decide +kernel
theorem dX6_readMember_62 : decode cX6_readMember 62 = .ok (.invokestatic 230, 3) := by decide +kernel
theorem dX6_readMember_65 : decode cX6_readMember 65 = .ok (.ifCond .eq 55, 3) := by decide +kernel
theorem dX6_readMember_68 : decode cX6_readMember 68 = .ok (.aload_n 0, 1) := by decide +kernel
theorem dX6_readMember_69 : decode cX6_readMember 69 = .ok (.iconst 1, 1) := by decide +kernel
theorem dX6_readMember_70 : decode cX6_readMember 70 = .ok (.aload_n 0, 1) := by decide +kernel
theorem dX6_readMember_71 : decode cX6_readMember 71 = .ok (.getfield 68, 3) := by decide +kernel
theorem dX6_readMember_74 : decode cX6_readMember 74 = .ok (.invokevirtual 88, 3) := by decide +kernel
theorem dX6_readMember_77 : decode cX6_readMember 77 = .ok (.goto 43, 3) := by decide +kernel
theorem dX6_readMember_80 : decode cX6_readMember 80 = .ok (.iload_n 1, 1) := by decide +kernel
theorem dX6_readMember_81 : decode cX6_readMember 81 = .ok (.invokestatic 261, 3) := by decide +kernel
theorem dX6_readMember_84 : decode cX6_readMember 84 = .ok (.ifCond .eq 27, 3) := by decide +kernel
theorem dX6_readMember_87 : decode cX6_readMember 87 = .ok (.iload_n 1, 1) := by decide +kernel
theorem dX6_readMember_88 : decode cX6_readMember 88 = .ok (.bipush 91, 2) := by decide +kernel
theorem dX6_readMember_90 : decode cX6_readMember 90 = .ok (.if_icmp .eq 21, 3) := by decide +kernel
theorem dX6_readMember_93 : decode cX6_readMember 93 = .ok (.iload_n 1, 1) := by decide +kernel
theorem dX6_readMember_94 : decode cX6_readMember 94 = .ok (.bipush 93, 2) := by decide +kernel
theorem dX6_readMember_96 : decode cX6_readMember 96 = .ok (.if_icmp .eq 15, 3) := by decide +kernel
theorem dX6_readMember_99 : decode cX6_readMember 99 = .ok (.iload_n 1, 1) := by decide +kernel
theorem dX6_readMember_100 : decode cX6_readMember 100 = .ok (.bipush 94, 2) := by decide +kernel
theorem dX6_readMember_102 : decode cX6_readMember 102 = .ok (.if_icmp .eq 9, 3) := by decide +kernel
theorem dX6_readMember_105 : decode cX6_readMember 105 = .ok (.iload_n 1, 1) := by decide +kernel
theorem dX6_readMember_106 : decode cX6_readMember 106 = .ok (.bipush 45, 2) := by decide +kernel
theorem dX6_readMember_108 : decode cX6_readMember 108 = .ok (.if_icmp .ne 12, 3) := by decide +kernel
theorem dX6_readMember_111 : decode cX6_readMember 111 = .ok (.aload_n 0, 1) := by decide +kernel
theorem dX6_readMember_112 : decode cX6_readMember 112 = .ok (.iconst 1, 1) := by decide +kernel
theorem dX6_readMember_113 : decode cX6_readMember 113 = .ok (.aload_n 0, 1) := by decide +kernel
theorem dX6_readMember_114 : decode cX6_readMember 114 = .ok (.getfield 68, 3) := by decide +kernel
theorem dX6_readMember_117 : decode cX6_readMember 117 = .ok (.invokevirtual 88, 3) := by decide +kernel
theorem dX6_readMember_120 : decode cX6_readMember 120 = .ok (.aload_n 0, 1) := by decide +kernel
theorem dX6_readMember_121 : decode cX6_readMember 121 = .ok (.dup, 1) := by decide +kernel
theorem dX6_readMember_122 : decode cX6_readMember 122 = .ok (.getfield 68, 3) := by decide +kernel
theorem dX6_readMember_125 : decode cX6_readMember 125 = .ok (.iconst 1, 1) := by decide +kernel
theorem dX6_readMember_126 : decode cX6_readMember 126 = .ok (.iadd, 1) := by decide +kernel
theorem dX6_readMember_127 : decode cX6_readMember 127 = .ok (.putfield 68, 3) := by decide +kernel
theorem dX6_readMember_130 : decode cX6_readMember 130 = .ok (.iload_n 1, 1) := by decide +kernel
theorem dX6_readMember_131 : decode cX6_readMember 131 = .ok (.ireturn, 1) := by decide +kernel
theorem dX6_readMost_0 : decode cX6_readMost 0 = .ok (.iload_n 1, 1) := by decide +kernel
theorem dX6_readMost_1 : decode cX6_readMost 1 = .ok (.istore_n 2, 1) := by decide +kernel
theorem dX6_readMost_2 : decode cX6_readMost 2 = .ok (.aload_n 0, 1) := by decide +kernel
theorem dX6_readMost_3 : decode cX6_readMost 3 = .ok (.getfield 75, 3) := by decide +kernel
theorem dX6_readMost_6 : decode cX6_readMost 6 = .ok (.ifCond .ne 41, 3) := by decide +kernel
theorem dX6_readMost_9 : decode cX6_readMost 9 = .ok (.aload_n 0, 1) := by decide +kernel
theorem dX6_readMost_10 : decode cX6_readMost 10 = .ok (.invokevirtual 78, 3) := by decide +kernel
theorem dX6_readMost_13 : decode cX6_readMost 13 = .ok (.bipush 44, 2) := by decide +kernel
theorem dX6_readMost_15 : decode cX6_readMost 15 = .ok (.if_icmp .ne 32, 3) := by decide +kernel
theorem dX6_readMost_18 : decode cX6_readMost 18 = .ok (.aload_n 0, 1) := by decide +kernel
theorem dX6_readMost_19 : decode cX6_readMost 19 = .ok (.dup, 1) := by decide +kernel
theorem dX6_readMost_20 : decode cX6_readMost 20 = .ok (.getfield 68, 3) := by decide +kernel
theorem dX6_readMost_23 : decode cX6_readMost 23 = .ok (.iconst 1, 1) := by decide +kernel
theorem dX6_readMost_24 : decode cX6_readMost 24 = .ok (.iadd, 1) := by decide +kernel
theorem dX6_readMost_25 : decode cX6_readMost 25 = .ok (.putfield 68, 3) := by decide +kernel
theorem dX6_readMost_28 : decode cX6_readMost 28 = .ok (.aload_n 0, 1) := by decide +kernel
theorem dX6_readMost_29 : decode cX6_readMost 29 = .ok (.invokevirtual 78, 3) := by decide +kernel
theorem dX6_readMost_32 : decode cX6_readMost 32 = .ok (.bipush 125, 2) := by decide +kernel
theorem dX6_readMost_34 : decode cX6_readMost 34 = .ok (.if_icmp .ne 7, 3) := by decide +kernel
theorem dX6_readMost_37 : decode cX6_readMost 37 = .ok (.iconst (-1), 1) := by decide +kernel
theorem dX6_readMost_38 : decode cX6_readMost 38 = .ok (.goto 8, 3) := by decide +kernel
theorem dX6_readMost_41 : decode cX6_readMost 41 = .ok (.aload_n 0, 1) := by decide +kernel
theorem dX6_readMost_42 : decode cX6_readMost 42 = .ok (.iload_n 1, 1) := by decide +kernel
theorem dX6_readMost_43 : decode cX6_readMost 43 = .ok (.invokevirtual 224, 3) := by decide +kernel
theorem dX6_readMost_46 : decode cX6_readMost 46 = .ok (.istore_n 2, 1) := by decide +kernel
theorem dX6_readMost_47 : decode cX6_readMost 47 = .ok (.aload_n 0, 1) := by decide +kernel
theorem dX6_readMost_48 : decode cX6_readMost 48 = .ok (.invokevirtual 78, 3) := by decide +kernel
theorem dX6_readMost_51 : decode cX6_readMost 51 = .ok (.bipush 125, 2) := by decide +kernel
theorem dX6_readMost_53 : decode cX6_readMost 53 = .ok (.if_icmp .eq 12, 3) := by decide +kernel
theorem dX6_readMost_56 : decode cX6_readMost 56 = .ok (.aload_n 0, 1) := by decide +kernel
theorem dX6_readMost_57 : decode cX6_readMost 57 = .ok (.iconst 1, 1) := by decide +kernel
theorem dX6_readMost_58 : decode cX6_readMost 58 = .ok (.aload_n 0, 1) := by decide +kernel
theorem dX6_readMost_59 : decode cX6_readMost 59 = .ok (.getfield 68, 3) := by decide +kernel
theorem dX6_readMost_62 : decode cX6_readMost 62 = .ok (.invokevirtual 88, 3) := by decide +kernel
theorem dX6_readMost_65 : decode cX6_readMost 65 = .ok (.aload_n 0, 1) := by decide +kernel
theorem dX6_readMost_66 : decode cX6_readMost 66 = .ok (.dup, 1) := by decide +kernel
theorem dX6_readMost_67 : decode cX6_readMost 67 = .ok (.getfield 68, 3) := by decide +kernel
theorem dX6_readMost_70 : decode cX6_readMost 70 = .ok (.iconst 1, 1) := by decide +kernel
theorem dX6_readMost_71 : decode cX6_readMost 71 = .ok (.iadd, 1) := by decide +kernel
theorem dX6_readMost_72 : decode cX6_readMost 72 = .ok (.putfield 68, 3) := by decide +kernel
theorem dX6_readMost_75 : decode cX6_readMost 75 = .ok (.iload_n 2, 1) := by decide +kernel
theorem dX6_readMost_76 : decode cX6_readMost 76 = .ok (.ireturn, 1) := by decide +kernel
theorem dX6_readName_0 : decode cX6_readName 0 = .ok (.aload_n 0, 1) := by decide +kernel
theorem dX6_readName_1 : decode cX6_readName 1 = .ok (.invokevirtual 78, 3) := by decide +kernel
theorem dX6_readName_4 : decode cX6_readName 4 = .ok (.istore_n 1, 1) := by decide +kernel
theorem dX6_readName_5 : decode cX6_readName 5 = .ok (.iload_n 1, 1) := by decide +kernel
theorem dX6_readName_6 : decode cX6_readName 6 = .ok (.invokestatic 220, 3) := by decide +kernel
theorem dX6_readName_9 : decode cX6_readName 9 = .ok (.ifCond .ne 14, 3) := by decide +kernel
theorem dX6_readName_12 : decode cX6_readName 12 = .ok (.aload_n 0, 1) := by decide +kernel
theorem dX6_readName_13 : decode cX6_readName 13 = .ok (.iconst 1, 1) := by decide +kernel
theorem dX6_readName_14 : decode cX6_readName 14 = .ok (.aload_n 0, 1) := by decide +kernel
theorem dX6_readName_15 : decode cX6_readName 15 = .ok (.getfield 68, 3) := by decide +kernel
theorem dX6_readName_18 : decode cX6_readName 18 = .ok (.invokevirtual 88, 3) := by decide +kernel
theorem dX6_readName_21 : decode cX6_readName 21 = .ok (.iconst 0, 1) := by decide +kernel
theorem dX6_readName_22 : decode cX6_readName 22 = .ok (.ireturn, 1) := by decide +kernel
theorem dX6_readName_23 : decode cX6_readName 23 = .ok (.aload_n 0, 1) := by decide +kernel
theorem dX6_readName_24 : decode cX6_readName 24 = .ok (.getfield 54, 3) := by decide +kernel
theorem dX6_readName_27 : decode cX6_readName 27 = .ok (.iload_n 1, 1) := by decide +kernel
theorem dX6_readName_28 : decode cX6_readName 28 = .ok (.bipush 97, 2) := by decide +kernel
theorem dX6_readName_30 : decode cX6_readName 30 = .ok (.isub, 1) := by decide +kernel
theorem dX6_readName_31 : decode cX6_readName 31 = .ok (.iaload, 1) := by decide +kernel
theorem dX6_readName_32 : decode cX6_readName 32 = .ok (.ifCond .eq 12, 3) := by decide +kernel
theorem dX6_readName_35 : decode cX6_readName 35 = .ok (.aload_n 0, 1) := by decide +kernel
theorem dX6_readName_36 : decode cX6_readName 36 = .ok (.iconst 3, 1) := by decide +kernel
theorem dX6_readName_37 : decode cX6_readName 37 = .ok (.aload_n 0, 1) := by decide +kernel
theorem dX6_readName_38 : decode cX6_readName 38 = .ok (.getfield 68, 3) := by decide +kernel
theorem dX6_readName_41 : decode cX6_readName 41 = .ok (.invokevirtual 88, 3) := by decide +kernel
theorem dX6_readName_44 : decode cX6_readName 44 = .ok (.aload_n 0, 1) := by decide +kernel
theorem dX6_readName_45 : decode cX6_readName 45 = .ok (.getfield 54, 3) := by decide +kernel
theorem dX6_readName_48 : decode cX6_readName 48 = .ok (.iload_n 1, 1) := by decide +kernel
theorem dX6_readName_49 : decode cX6_readName 49 = .ok (.bipush 97, 2) := by decide +kernel
theorem dX6_readName_51 : decode cX6_readName 51 = .ok (.isub, 1) := by decide +kernel
theorem dX6_readName_52 : decode cX6_readName 52 = .ok (.aload_n 0, 1) := by decide +kernel
theorem dX6_readName_53 : decode cX6_readName 53 = .ok (.getfield 50, 3) := by decide +kernel
theorem dX6_readName_56 : decode cX6_readName 56 = .ok (.getfield 211, 3) := by decide +kernel
theorem dX6_readName_59 : decode cX6_readName 59 = .ok (.iastore, 1) := by decide +kernel
theorem dX6_readName_60 : decode cX6_readName 60 = .ok (.aload_n 0, 1) := by decide +kernel
theorem dX6_readName_61 : decode cX6_readName 61 = .ok (.dup, 1) := by decide +kernel
theorem dX6_readName_62 : decode cX6_readName 62 = .ok (.getfield 68, 3) := by decide +kernel
theorem dX6_readName_65 : decode cX6_readName 65 = .ok (.iconst 1, 1) := by decide +kernel
theorem dX6_readName_66 : decode cX6_readName 66 = .ok (.iadd, 1) := by decide +kernel
theorem dX6_readName_67 : decode cX6_readName 67 = .ok (.putfield 68, 3) := by decide +kernel
theorem dX6_readName_70 : decode cX6_readName 70 = .ok (.iload_n 1, 1) := by decide +kernel
theorem dX6_readName_71 : decode cX6_readName 71 = .ok (.ireturn, 1) := by decide +kernel
theorem dX6_readNumber_0 : decode cX6_readNumber 0 = .ok (.aload_n 0, 1) := by decide +kernel
theorem dX6_readNumber_1 : decode cX6_readNumber 1 = .ok (.getfield 68, 3) := by decide +kernel
theorem dX6_readNumber_4 : decode cX6_readNumber 4 = .ok (.istore_n 2, 1) := by decide +kernel
theorem dX6_readNumber_5 : decode cX6_readNumber 5 = .ok (.aload_n 0, 1) := by decide +kernel
theorem dX6_readNumber_6 : decode cX6_readNumber 6 = .ok (.invokevirtual 78, 3) := by decide +kernel
theorem dX6_readNumber_9 : decode cX6_readNumber 9 = .ok (.invokestatic 230, 3) := by decide +kernel
theorem dX6_readNumber_12 : decode cX6_readNumber 12 = .ok (.ifCond .ne 14, 3) := by decide +kernel
theorem dX6_readNumber_15 : decode cX6_readNumber 15 = .ok (.aload_n 0, 1) := by decide +kernel
theorem dX6_readNumber_16 : decode cX6_readNumber 16 = .ok (.iconst 1, 1) := by decide +kernel
theorem dX6_readNumber_17 : decode cX6_readNumber 17 = .ok (.aload_n 0, 1) := by decide +kernel
theorem dX6_readNumber_18 : decode cX6_readNumber 18 = .ok (.getfield 68, 3) := by decide +kernel
theorem dX6_readNumber_21 : decode cX6_readNumber 21 = .ok (.invokevirtual 88, 3) := by decide +kernel
theorem dX6_readNumber_24 : decode cX6_readNumber 24 = .ok (.iconst 0, 1) := by decide +kernel
theorem dX6_readNumber_25 : decode cX6_readNumber 25 = .ok (.ireturn, 1) := by decide +kernel
theorem dX6_readNumber_26 : decode cX6_readNumber 26 = .ok (.aload_n 0, 1) := by decide +kernel
theorem dX6_readNumber_27 : decode cX6_readNumber 27 = .ok (.invokevirtual 78, 3) := by decide +kernel
theorem dX6_readNumber_30 : decode cX6_readNumber 30 = .ok (.bipush 48, 2) := by decide +kernel
theorem dX6_readNumber_32 : decode cX6_readNumber 32 = .ok (.isub, 1) := by decide +kernel
theorem dX6_readNumber_33 : decode cX6_readNumber 33 = .ok (.istore_n 3, 1) := by decide +kernel
theorem dX6_readNumber_34 : decode cX6_readNumber 34 = .ok (.aload_n 0, 1) := by decide +kernel
theorem dX6_readNumber_35 : decode cX6_readNumber 35 = .ok (.dup, 1) := by decide +kernel
theorem dX6_readNumber_36 : decode cX6_readNumber 36 = .ok (.getfield 68, 3) := by decide +kernel
theorem dX6_readNumber_39 : decode cX6_readNumber 39 = .ok (.iconst 1, 1) := by decide +kernel
theorem dX6_readNumber_40 : decode cX6_readNumber 40 = .ok (.iadd, 1) := by decide +kernel
theorem dX6_readNumber_41 : decode cX6_readNumber 41 = .ok (.putfield 68, 3) := by decide +kernel
theorem dX6_readNumber_44 : decode cX6_readNumber 44 = .ok (.aload_n 0, 1) := by decide +kernel
theorem dX6_readNumber_45 : decode cX6_readNumber 45 = .ok (.invokevirtual 78, 3) := by decide +kernel
theorem dX6_readNumber_48 : decode cX6_readNumber 48 = .ok (.invokestatic 230, 3) := by decide +kernel
theorem dX6_readNumber_51 : decode cX6_readNumber 51 = .ok (.ifCond .eq 26, 3) := by decide +kernel
theorem dX6_readNumber_54 : decode cX6_readNumber 54 = .ok (.iload_n 3, 1) := by decide +kernel
theorem dX6_readNumber_55 : decode cX6_readNumber 55 = .ok (.bipush 10, 2) := by decide +kernel
theorem dX6_readNumber_57 : decode cX6_readNumber 57 = .ok (.imul, 1) := by decide +kernel
theorem dX6_readNumber_58 : decode cX6_readNumber 58 = .ok (.aload_n 0, 1) := by decide +kernel
theorem dX6_readNumber_59 : decode cX6_readNumber 59 = .ok (.invokevirtual 78, 3) := by decide +kernel
theorem dX6_readNumber_62 : decode cX6_readNumber 62 = .ok (.iadd, 1) := by decide +kernel
theorem dX6_readNumber_63 : decode cX6_readNumber 63 = .ok (.bipush 48, 2) := by decide +kernel
theorem dX6_readNumber_65 : decode cX6_readNumber 65 = .ok (.isub, 1) := by decide +kernel
theorem dX6_readNumber_66 : decode cX6_readNumber 66 = .ok (.istore_n 3, 1) := by decide +kernel
theorem dX6_readNumber_67 : decode cX6_readNumber 67 = .ok (.aload_n 0, 1) := by decide +kernel
theorem dX6_readNumber_68 : decode cX6_readNumber 68 = .ok (.dup, 1) := by decide +kernel
theorem dX6_readNumber_69 : decode cX6_readNumber 69 = .ok (.getfield 68, 3) := by decide +kernel
theorem dX6_readNumber_72 : decode cX6_readNumber 72 = .ok (.iconst 1, 1) := by decide +kernel
theorem dX6_readNumber_73 : decode cX6_readNumber 73 = .ok (.iadd, 1) := by decide +kernel
theorem dX6_readNumber_74 : decode cX6_readNumber 74 = .ok (.putfield 68, 3) := by decide +kernel
theorem dX6_readNumber_77 : decode cX6_readNumber 77 = .ok (.iload_n 3, 1) := by decide +kernel
theorem dX6_readNumber_78 : decode cX6_readNumber 78 = .ok (.bipush 20, 2) := by decide +kernel
theorem dX6_readNumber_80 : decode cX6_readNumber 80 = .ok (.if_icmp .gt 8, 3) := by decide +kernel
theorem dX6_readNumber_83 : decode cX6_readNumber 83 = .ok (.iload_n 3, 1) := by decide +kernel
theorem dX6_readNumber_84 : decode cX6_readNumber 84 = .ok (.iload_n 1, 1) := by decide +kernel
theorem dX6_readNumber_85 : decode cX6_readNumber 85 = .ok (.if_icmp .ge 9, 3) := by decide +kernel
theorem dX6_readNumber_88 : decode cX6_readNumber 88 = .ok (.aload_n 0, 1) := by decide +kernel
theorem dX6_readNumber_89 : decode cX6_readNumber 89 = .ok (.iconst 3, 1) := by decide +kernel
theorem dX6_readNumber_90 : decode cX6_readNumber 90 = .ok (.iload_n 2, 1) := by decide +kernel
theorem dX6_readNumber_91 : decode cX6_readNumber 91 = .ok (.invokevirtual 88, 3) := by decide +kernel
theorem dX6_readNumber_94 : decode cX6_readNumber 94 = .ok (.iload_n 3, 1) := by decide +kernel
theorem dX6_readNumber_95 : decode cX6_readNumber 95 = .ok (.ireturn, 1) := by decide +kernel
theorem dX6_readPart_0 : decode cX6_readPart 0 = .ok (.aload_n 0, 1) := by decide +kernel
theorem dX6_readPart_1 : decode cX6_readPart 1 = .ok (.invokevirtual 270, 3) := by decide +kernel
theorem dX6_readPart_4 : decode cX6_readPart 4 = .ok (.istore_n 1, 1) := by decide +kernel
theorem dX6_readPart_5 : decode cX6_readPart 5 = .ok (.iload_n 1, 1) := by decide +kernel
theorem dX6_readPart_6 : decode cX6_readPart 6 = .ok (.istore_n 2, 1) := by decide +kernel
theorem dX6_readPart_7 : decode cX6_readPart 7 = .ok (.aload_n 0, 1) := by decide +kernel
theorem dX6_readPart_8 : decode cX6_readPart 8 = .ok (.getfield 75, 3) := by decide +kernel
theorem dX6_readPart_11 : decode cX6_readPart 11 = .ok (.ifCond .ne 43, 3) := by decide +kernel
theorem dX6_readPart_14 : decode cX6_readPart 14 = .ok (.aload_n 0, 1) := by decide +kernel
theorem dX6_readPart_15 : decode cX6_readPart 15 = .ok (.invokevirtual 78, 3) := by decide +kernel
theorem dX6_readPart_18 : decode cX6_readPart 18 = .ok (.bipush 45, 2) := by decide +kernel
theorem dX6_readPart_20 : decode cX6_readPart 20 = .ok (.if_icmp .ne 34, 3) := by decide +kernel
theorem dX6_readPart_23 : decode cX6_readPart 23 = .ok (.aload_n 0, 1) := by decide +kernel
theorem dX6_readPart_24 : decode cX6_readPart 24 = .ok (.dup, 1) := by decide +kernel
theorem dX6_readPart_25 : decode cX6_readPart 25 = .ok (.getfield 68, 3) := by decide +kernel
theorem dX6_readPart_28 : decode cX6_readPart 28 = .ok (.iconst 1, 1) := by decide +kernel
theorem dX6_readPart_29 : decode cX6_readPart 29 = .ok (.iadd, 1) := by decide +kernel
theorem dX6_readPart_30 : decode cX6_readPart 30 = .ok (.putfield 68, 3) := by decide +kernel
theorem dX6_readPart_33 : decode cX6_readPart 33 = .ok (.aload_n 0, 1) := by decide +kernel
theorem dX6_readPart_34 : decode cX6_readPart 34 = .ok (.getfield 68, 3) := by decide +kernel
theorem dX6_readPart_37 : decode cX6_readPart 37 = .ok (.istore_n 3, 1) := by decide +kernel
theorem dX6_readPart_38 : decode cX6_readPart 38 = .ok (.aload_n 0, 1) := by decide +kernel
theorem dX6_readPart_39 : decode cX6_readPart 39 = .ok (.invokevirtual 270, 3) := by decide +kernel
theorem dX6_readPart_42 : decode cX6_readPart 42 = .ok (.istore_n 2, 1) := by decide +kernel
theorem dX6_readPart_43 : decode cX6_readPart 43 = .ok (.iload_n 2, 1) := by decide +kernel
theorem dX6_readPart_44 : decode cX6_readPart 44 = .ok (.iload_n 1, 1) := by decide +kernel
theorem dX6_readPart_45 : decode cX6_readPart 45 = .ok (.if_icmp .ge 9, 3) := by decide +kernel
theorem dX6_readPart_48 : decode cX6_readPart 48 = .ok (.aload_n 0, 1) := by decide +kernel
theorem dX6_readPart_49 : decode cX6_readPart 49 = .ok (.iconst 3, 1) := by decide +kernel
theorem dX6_readPart_50 : decode cX6_readPart 50 = .ok (.iload_n 3, 1) := by decide +kernel
theorem dX6_readPart_51 : decode cX6_readPart 51 = .ok (.invokevirtual 88, 3) := by decide +kernel
theorem dX6_readPart_54 : decode cX6_readPart 54 = .ok (.aload_n 0, 1) := by decide +kernel
theorem dX6_readPart_55 : decode cX6_readPart 55 = .ok (.iload_n 1, 1) := by decide +kernel
theorem dX6_readPart_56 : decode cX6_readPart 56 = .ok (.iload_n 2, 1) := by decide +kernel
theorem dX6_readPart_57 : decode cX6_readPart 57 = .ok (.invokevirtual 251, 3) := by decide +kernel
theorem dX6_readPart_60 : decode cX6_readPart 60 = .ok (.return_, 1) := by decide +kernel
theorem dX6_sortOfMark_0 : decode cX6_sortOfMark 0 = .ok (.iload_n 0, 1) := by decide +kernel
theorem dX6_sortOfMark_1 : decode cX6_sortOfMark 1 = .ok (.lookupswitch 78 #[(33, 69), (37, 75), (42, 72), (58, 67), (60, 69), (61, 69), (126, 69)], 67) := by decide +kernel
theorem dX6_sortOfMark_68 : decode cX6_sortOfMark 68 = .ok (.iconst (-1), 1) := by decide +kernel
theorem dX6_sortOfMark_69 : decode cX6_sortOfMark 69 = .ok (.ireturn, 1) := by decide +kernel
theorem dX6_sortOfMark_70 : decode cX6_sortOfMark 70 = .ok (.bipush 9, 2) := by decide +kernel
theorem dX6_sortOfMark_72 : decode cX6_sortOfMark 72 = .ok (.ireturn, 1) := by decide +kernel
theorem dX6_sortOfMark_73 : decode cX6_sortOfMark 73 = .ok (.bipush 10, 2) := by decide +kernel
theorem dX6_sortOfMark_75 : decode cX6_sortOfMark 75 = .ok (.ireturn, 1) := by decide +kernel
theorem dX6_sortOfMark_76 : decode cX6_sortOfMark 76 = .ok (.bipush 11, 2) := by decide +kernel
theorem dX6_sortOfMark_78 : decode cX6_sortOfMark 78 = .ok (.ireturn, 1) := by decide +kernel
theorem dX6_sortOfMark_79 : decode cX6_sortOfMark 79 = .ok (.bipush 8, 2) := by decide +kernel
theorem dX6_sortOfMark_81 : decode cX6_sortOfMark 81 = .ok (.ireturn, 1) := by decide +kernel
theorem dX7_add_0 : decode cX7_add 0 = .ok (.aload_n 0, 1) := by decide +kernel
theorem dX7_add_1 : decode cX7_add 1 = .ok (.getfield 21, 3) := by decide +kernel
theorem dX7_add_4 : decode cX7_add 4 = .ok (.ifCond .lt 38, 3) := by decide +kernel
theorem dX7_add_7 : decode cX7_add 7 = .ok (.aload_n 0, 1) := by decide +kernel
theorem dX7_add_8 : decode cX7_add 8 = .ok (.getfield 21, 3) := by decide +kernel
theorem dX7_add_11 : decode cX7_add 11 = .ok (.aload_n 0, 1) := by decide +kernel
theorem dX7_add_12 : decode cX7_add 12 = .ok (.getfield 15, 3) := by decide +kernel
theorem dX7_add_15 : decode cX7_add 15 = .ok (.arraylength, 1) := by decide +kernel
theorem dX7_add_16 : decode cX7_add 16 = .ok (.if_icmp .ge 26, 3) := by decide +kernel
theorem dX7_add_19 : decode cX7_add 19 = .ok (.aload_n 0, 1) := by decide +kernel
theorem dX7_add_20 : decode cX7_add 20 = .ok (.getfield 15, 3) := by decide +kernel
theorem dX7_add_23 : decode cX7_add 23 = .ok (.aload_n 0, 1) := by decide +kernel
theorem dX7_add_24 : decode cX7_add 24 = .ok (.getfield 21, 3) := by decide +kernel
theorem dX7_add_27 : decode cX7_add 27 = .ok (.iload_n 1, 1) := by decide +kernel
theorem dX7_add_28 : decode cX7_add 28 = .ok (.iastore, 1) := by decide +kernel
theorem dX7_add_29 : decode cX7_add 29 = .ok (.aload_n 0, 1) := by decide +kernel
theorem dX7_add_30 : decode cX7_add 30 = .ok (.dup, 1) := by decide +kernel
theorem dX7_add_31 : decode cX7_add 31 = .ok (.getfield 21, 3) := by decide +kernel
theorem dX7_add_34 : decode cX7_add 34 = .ok (.iconst 1, 1) := by decide +kernel
theorem dX7_add_35 : decode cX7_add 35 = .ok (.iadd, 1) := by decide +kernel
theorem dX7_add_36 : decode cX7_add 36 = .ok (.putfield 21, 3) := by decide +kernel
theorem dX7_add_39 : decode cX7_add 39 = .ok (.goto 8, 3) := by decide +kernel
theorem dX7_add_42 : decode cX7_add 42 = .ok (.aload_n 0, 1) := by decide +kernel
theorem dX7_add_43 : decode cX7_add 43 = .ok (.iconst 1, 1) := by decide +kernel
theorem dX7_add_44 : decode cX7_add 44 = .ok (.putfield 25, 3) := by decide +kernel
theorem dX7_add_47 : decode cX7_add 47 = .ok (.return_, 1) := by decide +kernel
theorem dX7_addFrom_0 : decode cX7_addFrom 0 = .ok (.iload_n 2, 1) := by decide +kernel
theorem dX7_addFrom_1 : decode cX7_addFrom 1 = .ok (.iconst 0, 1) := by decide +kernel
theorem dX7_addFrom_2 : decode cX7_addFrom 2 = .ok (.invokestatic 9, 3) := by decide +kernel
theorem dX7_addFrom_5 : decode cX7_addFrom 5 = .ok (.istore 4, 2) := by decide +kernel
theorem dX7_addFrom_7 : decode cX7_addFrom 7 = .ok (.iload 4, 2) := by decide +kernel
theorem dX7_addFrom_9 : decode cX7_addFrom 9 = .ok (.iload_n 3, 1) := by decide +kernel
theorem dX7_addFrom_10 : decode cX7_addFrom 10 = .ok (.if_icmp .ge 28, 3) := by decide +kernel
theorem dX7_addFrom_13 : decode cX7_addFrom 13 = .ok (.iload 4, 2) := by decide +kernel
theorem dX7_addFrom_15 : decode cX7_addFrom 15 = .ok (.aload_n 1, 1) := by decide +kernel
theorem dX7_addFrom_16 : decode cX7_addFrom 16 = .ok (.getfield 21, 3) := by decide +kernel
theorem dX7_addFrom_19 : decode cX7_addFrom 19 = .ok (.if_icmp .ge 19, 3) := by decide +kernel
theorem dX7_addFrom_22 : decode cX7_addFrom 22 = .ok (.aload_n 0, 1) := by decide +kernel
theorem dX7_addFrom_23 : decode cX7_addFrom 23 = .ok (.aload_n 1, 1) := by decide +kernel
theorem dX7_addFrom_24 : decode cX7_addFrom 24 = .ok (.iload 4, 2) := by decide +kernel
theorem dX7_addFrom_26 : decode cX7_addFrom 26 = .ok (.invokevirtual 29, 3) := by decide +kernel
theorem dX7_addFrom_29 : decode cX7_addFrom 29 = .ok (.invokevirtual 33, 3) := by decide +kernel
theorem dX7_addFrom_32 : decode cX7_addFrom 32 = .ok (.iinc 4 1, 3) := by decide +kernel
theorem dX7_addFrom_35 : decode cX7_addFrom 35 = .ok (.goto (-28), 3) := by decide +kernel
theorem dX7_addFrom_38 : decode cX7_addFrom 38 = .ok (.return_, 1) := by decide +kernel
theorem dX7_at_0 : decode cX7_at 0 = .ok (.iload_n 1, 1) := by decide +kernel
theorem dX7_at_1 : decode cX7_at 1 = .ok (.ifCond .lt 29, 3) := by decide +kernel
theorem dX7_at_4 : decode cX7_at 4 = .ok (.iload_n 1, 1) := by decide +kernel
theorem dX7_at_5 : decode cX7_at 5 = .ok (.aload_n 0, 1) := by decide +kernel
theorem dX7_at_6 : decode cX7_at 6 = .ok (.getfield 21, 3) := by decide +kernel
theorem dX7_at_9 : decode cX7_at 9 = .ok (.if_icmp .ge 21, 3) := by decide +kernel
theorem dX7_at_12 : decode cX7_at 12 = .ok (.iload_n 1, 1) := by decide +kernel
theorem dX7_at_13 : decode cX7_at 13 = .ok (.aload_n 0, 1) := by decide +kernel
theorem dX7_at_14 : decode cX7_at 14 = .ok (.getfield 15, 3) := by decide +kernel
theorem dX7_at_17 : decode cX7_at 17 = .ok (.arraylength, 1) := by decide +kernel
theorem dX7_at_18 : decode cX7_at 18 = .ok (.if_icmp .ge 12, 3) := by decide +kernel
theorem dX7_at_21 : decode cX7_at 21 = .ok (.aload_n 0, 1) := by decide +kernel
theorem dX7_at_22 : decode cX7_at 22 = .ok (.getfield 15, 3) := by decide +kernel
theorem dX7_at_25 : decode cX7_at 25 = .ok (.iload_n 1, 1) := by decide +kernel
theorem dX7_at_26 : decode cX7_at 26 = .ok (.iaload, 1) := by decide +kernel
theorem dX7_at_27 : decode cX7_at 27 = .ok (.goto 4, 3) := by decide +kernel
theorem dX7_at_30 : decode cX7_at 30 = .ok (.iconst (-1), 1) := by decide +kernel
theorem dX7_at_31 : decode cX7_at 31 = .ok (.ireturn, 1) := by decide +kernel
theorem dX7_empty_0 : decode cX7_empty 0 = .ok (.aload_n 0, 1) := by decide +kernel
theorem dX7_empty_1 : decode cX7_empty 1 = .ok (.iconst 0, 1) := by decide +kernel
theorem dX7_empty_2 : decode cX7_empty 2 = .ok (.putfield 21, 3) := by decide +kernel
theorem dX7_empty_5 : decode cX7_empty 5 = .ok (.aload_n 0, 1) := by decide +kernel
theorem dX7_empty_6 : decode cX7_empty 6 = .ok (.iconst 0, 1) := by decide +kernel
theorem dX7_empty_7 : decode cX7_empty 7 = .ok (.putfield 25, 3) := by decide +kernel
theorem dX7_empty_10 : decode cX7_empty 10 = .ok (.return_, 1) := by decide +kernel
theorem dX7_take_0 : decode cX7_take 0 = .ok (.aload_n 0, 1) := by decide +kernel
theorem dX7_take_1 : decode cX7_take 1 = .ok (.invokevirtual 37, 3) := by decide +kernel
theorem dX7_take_4 : decode cX7_take 4 = .ok (.aload_n 0, 1) := by decide +kernel
theorem dX7_take_5 : decode cX7_take 5 = .ok (.aload_n 1, 1) := by decide +kernel
theorem dX7_take_6 : decode cX7_take 6 = .ok (.iconst 0, 1) := by decide +kernel
theorem dX7_take_7 : decode cX7_take 7 = .ok (.aload_n 1, 1) := by decide +kernel
theorem dX7_take_8 : decode cX7_take 8 = .ok (.getfield 21, 3) := by decide +kernel
theorem dX7_take_11 : decode cX7_take 11 = .ok (.invokevirtual 40, 3) := by decide +kernel
theorem dX7_take_14 : decode cX7_take 14 = .ok (.return_, 1) := by decide +kernel
theorem dX7_turnRound_0 : decode cX7_turnRound 0 = .ok (.iconst 0, 1) := by decide +kernel
theorem dX7_turnRound_1 : decode cX7_turnRound 1 = .ok (.istore_n 1, 1) := by decide +kernel
theorem dX7_turnRound_2 : decode cX7_turnRound 2 = .ok (.aload_n 0, 1) := by decide +kernel
theorem dX7_turnRound_3 : decode cX7_turnRound 3 = .ok (.getfield 21, 3) := by decide +kernel
theorem dX7_turnRound_6 : decode cX7_turnRound 6 = .ok (.iconst 1, 1) := by decide +kernel
theorem dX7_turnRound_7 : decode cX7_turnRound 7 = .ok (.isub, 1) := by decide +kernel
theorem dX7_turnRound_8 : decode cX7_turnRound 8 = .ok (.istore_n 2, 1) := by decide +kernel
theorem dX7_turnRound_9 : decode cX7_turnRound 9 = .ok (.iload_n 1, 1) := by decide +kernel
theorem dX7_turnRound_10 : decode cX7_turnRound 10 = .ok (.iload_n 2, 1) := by decide +kernel
theorem dX7_turnRound_11 : decode cX7_turnRound 11 = .ok (.if_icmp .ge 47, 3) := by decide +kernel
theorem dX7_turnRound_14 : decode cX7_turnRound 14 = .ok (.iload_n 2, 1) := by decide +kernel
theorem dX7_turnRound_15 : decode cX7_turnRound 15 = .ok (.aload_n 0, 1) := by decide +kernel
theorem dX7_turnRound_16 : decode cX7_turnRound 16 = .ok (.getfield 15, 3) := by decide +kernel
theorem dX7_turnRound_19 : decode cX7_turnRound 19 = .ok (.arraylength, 1) := by decide +kernel
theorem dX7_turnRound_20 : decode cX7_turnRound 20 = .ok (.if_icmp .ge 38, 3) := by decide +kernel
theorem dX7_turnRound_23 : decode cX7_turnRound 23 = .ok (.aload_n 0, 1) := by decide +kernel
theorem dX7_turnRound_24 : decode cX7_turnRound 24 = .ok (.getfield 15, 3) := by decide +kernel
theorem dX7_turnRound_27 : decode cX7_turnRound 27 = .ok (.iload_n 1, 1) := by decide +kernel
theorem dX7_turnRound_28 : decode cX7_turnRound 28 = .ok (.iaload, 1) := by decide +kernel
theorem dX7_turnRound_29 : decode cX7_turnRound 29 = .ok (.istore_n 3, 1) := by decide +kernel
theorem dX7_turnRound_30 : decode cX7_turnRound 30 = .ok (.aload_n 0, 1) := by decide +kernel
theorem dX7_turnRound_31 : decode cX7_turnRound 31 = .ok (.getfield 15, 3) := by decide +kernel
theorem dX7_turnRound_34 : decode cX7_turnRound 34 = .ok (.iload_n 1, 1) := by decide +kernel
theorem dX7_turnRound_35 : decode cX7_turnRound 35 = .ok (.aload_n 0, 1) := by decide +kernel
theorem dX7_turnRound_36 : decode cX7_turnRound 36 = .ok (.getfield 15, 3) := by decide +kernel
theorem dX7_turnRound_39 : decode cX7_turnRound 39 = .ok (.iload_n 2, 1) := by decide +kernel
theorem dX7_turnRound_40 : decode cX7_turnRound 40 = .ok (.iaload, 1) := by decide +kernel
theorem dX7_turnRound_41 : decode cX7_turnRound 41 = .ok (.iastore, 1) := by decide +kernel
theorem dX7_turnRound_42 : decode cX7_turnRound 42 = .ok (.aload_n 0, 1) := by decide +kernel
theorem dX7_turnRound_43 : decode cX7_turnRound 43 = .ok (.getfield 15, 3) := by decide +kernel
theorem dX7_turnRound_46 : decode cX7_turnRound 46 = .ok (.iload_n 2, 1) := by decide +kernel
theorem dX7_turnRound_47 : decode cX7_turnRound 47 = .ok (.iload_n 3, 1) := by decide +kernel
theorem dX7_turnRound_48 : decode cX7_turnRound 48 = .ok (.iastore, 1) := by decide +kernel
theorem dX7_turnRound_49 : decode cX7_turnRound 49 = .ok (.iinc 1 1, 3) := by decide +kernel
theorem dX7_turnRound_52 : decode cX7_turnRound 52 = .ok (.iinc 2 (-1), 3) := by decide +kernel
theorem dX7_turnRound_55 : decode cX7_turnRound 55 = .ok (.goto (-46), 3) := by decide +kernel
theorem dX7_turnRound_58 : decode cX7_turnRound 58 = .ok (.return_, 1) := by decide +kernel
theorem dX8_longestBeginning_0 : decode cX8_longestBeginning 0 = .ok (.aload_n 0, 1) := by decide +kernel
theorem dX8_longestBeginning_1 : decode cX8_longestBeginning 1 = .ok (.getfield 21, 3) := by decide +kernel
theorem dX8_longestBeginning_4 : decode cX8_longestBeginning 4 = .ok (.aload_n 0, 1) := by decide +kernel
theorem dX8_longestBeginning_5 : decode cX8_longestBeginning 5 = .ok (.getfield 12, 3) := by decide +kernel
theorem dX8_longestBeginning_8 : decode cX8_longestBeginning 8 = .ok (.aload_n 1, 1) := by decide +kernel
theorem dX8_longestBeginning_9 : decode cX8_longestBeginning 9 = .ok (.iload_n 2, 1) := by decide +kernel
theorem dX8_longestBeginning_10 : decode cX8_longestBeginning 10 = .ok (.invokevirtual 49, 3) := by decide +kernel
theorem dX8_longestBeginning_13 : decode cX8_longestBeginning 13 = .ok (.ireturn, 1) := by decide +kernel
theorem dX8_look_0 : decode cX8_look 0 = .ok (.aload_n 0, 1) := by decide +kernel
theorem dX8_look_1 : decode cX8_look 1 = .ok (.dup, 1) := by decide +kernel
theorem dX8_look_2 : decode cX8_look 2 = .ok (.getfield 53, 3) := by decide +kernel
theorem dX8_look_5 : decode cX8_look 5 = .ok (.iload_n 2, 1) := by decide +kernel
theorem dX8_look_6 : decode cX8_look 6 = .ok (.ifCond .eq 11, 3) := by decide +kernel
theorem dX8_look_9 : decode cX8_look 9 = .ok (.iload_n 3, 1) := by decide +kernel
theorem dX8_look_10 : decode cX8_look 10 = .ok (.ifCond .ne 7, 3) := by decide +kernel
theorem dX8_look_13 : decode cX8_look 13 = .ok (.iconst 1, 1) := by decide +kernel
theorem dX8_look_14 : decode cX8_look 14 = .ok (.goto 4, 3) := by decide +kernel
theorem dX8_look_17 : decode cX8_look 17 = .ok (.iconst 0, 1) := by decide +kernel
theorem dX8_look_18 : decode cX8_look 18 = .ok (.ior, 1) := by decide +kernel
theorem dX8_look_19 : decode cX8_look 19 = .ok (.putfield 53, 3) := by decide +kernel
theorem dX8_look_22 : decode cX8_look 22 = .ok (.aload_n 0, 1) := by decide +kernel
theorem dX8_look_23 : decode cX8_look 23 = .ok (.dup, 1) := by decide +kernel
theorem dX8_look_24 : decode cX8_look 24 = .ok (.getfield 57, 3) := by decide +kernel
theorem dX8_look_27 : decode cX8_look 27 = .ok (.iload_n 3, 1) := by decide +kernel
theorem dX8_look_28 : decode cX8_look 28 = .ok (.ifCond .eq 11, 3) := by decide +kernel
theorem dX8_look_31 : decode cX8_look 31 = .ok (.iload_n 2, 1) := by decide +kernel
theorem dX8_look_32 : decode cX8_look 32 = .ok (.ifCond .ne 7, 3) := by decide +kernel
theorem dX8_look_35 : decode cX8_look 35 = .ok (.iconst 1, 1) := by decide +kernel
theorem dX8_look_36 : decode cX8_look 36 = .ok (.goto 4, 3) := by decide +kernel
theorem dX8_look_39 : decode cX8_look 39 = .ok (.iconst 0, 1) := by decide +kernel
theorem dX8_look_40 : decode cX8_look 40 = .ok (.ior, 1) := by decide +kernel
theorem dX8_look_41 : decode cX8_look 41 = .ok (.putfield 57, 3) := by decide +kernel
theorem dX8_look_44 : decode cX8_look 44 = .ok (.iload_n 2, 1) := by decide +kernel
theorem dX8_look_45 : decode cX8_look 45 = .ok (.iload_n 3, 1) := by decide +kernel
theorem dX8_look_46 : decode cX8_look 46 = .ok (.if_icmp .eq 16, 3) := by decide +kernel
theorem dX8_look_49 : decode cX8_look 49 = .ok (.aload_n 0, 1) := by decide +kernel
theorem dX8_look_50 : decode cX8_look 50 = .ok (.getfield 60, 3) := by decide +kernel
theorem dX8_look_53 : decode cX8_look 53 = .ok (.iconst (-1), 1) := by decide +kernel
theorem dX8_look_54 : decode cX8_look 54 = .ok (.if_icmp .ne 8, 3) := by decide +kernel
theorem dX8_look_57 : decode cX8_look 57 = .ok (.aload_n 0, 1) := by decide +kernel
theorem dX8_look_58 : decode cX8_look 58 = .ok (.iload_n 1, 1) := by decide +kernel
theorem dX8_look_59 : decode cX8_look 59 = .ok (.putfield 60, 3) := by decide +kernel
theorem dX8_look_62 : decode cX8_look 62 = .ok (.return_, 1) := by decide +kernel
theorem dX8_make_0 : decode cX8_make 0 = .ok (.aload_n 0, 1) := by decide +kernel
theorem dX8_make_1 : decode cX8_make 1 = .ok (.getfield 12, 3) := by decide +kernel
theorem dX8_make_4 : decode cX8_make 4 = .ok (.aload_n 1, 1) := by decide +kernel
theorem dX8_make_5 : decode cX8_make 5 = .ok (.aload_n 2, 1) := by decide +kernel
theorem dX8_make_6 : decode cX8_make 6 = .ok (.invokevirtual 41, 3) := by decide +kernel
theorem dX8_make_9 : decode cX8_make 9 = .ok (.aload_n 0, 1) := by decide +kernel
theorem dX8_make_10 : decode cX8_make 10 = .ok (.getfield 21, 3) := by decide +kernel
theorem dX8_make_13 : decode cX8_make 13 = .ok (.aload_n 1, 1) := by decide +kernel
theorem dX8_make_14 : decode cX8_make 14 = .ok (.aload_n 0, 1) := by decide +kernel
theorem dX8_make_15 : decode cX8_make 15 = .ok (.getfield 12, 3) := by decide +kernel
theorem dX8_make_18 : decode cX8_make 18 = .ok (.invokevirtual 45, 3) := by decide +kernel
theorem dX8_make_21 : decode cX8_make 21 = .ok (.ifCond .eq 26, 3) := by decide +kernel
theorem dX8_make_24 : decode cX8_make 24 = .ok (.aload_n 2, 1) := by decide +kernel
theorem dX8_make_25 : decode cX8_make 25 = .ok (.ifnull 18, 3) := by decide +kernel
theorem dX8_make_28 : decode cX8_make 28 = .ok (.aload_n 0, 1) := by decide +kernel
theorem dX8_make_29 : decode cX8_make 29 = .ok (.getfield 25, 3) := by decide +kernel
theorem dX8_make_32 : decode cX8_make 32 = .ok (.aload_n 2, 1) := by decide +kernel
theorem dX8_make_33 : decode cX8_make 33 = .ok (.aload_n 0, 1) := by decide +kernel
theorem dX8_make_34 : decode cX8_make 34 = .ok (.getfield 12, 3) := by decide +kernel
theorem dX8_make_37 : decode cX8_make 37 = .ok (.invokevirtual 45, 3) := by decide +kernel
theorem dX8_make_40 : decode cX8_make 40 = .ok (.ifCond .eq 7, 3) := by decide +kernel
theorem dX8_make_43 : decode cX8_make 43 = .ok (.iconst 1, 1) := by decide +kernel
theorem dX8_make_44 : decode cX8_make 44 = .ok (.goto 4, 3) := by decide +kernel
theorem dX8_make_47 : decode cX8_make 47 = .ok (.iconst 0, 1) := by decide +kernel
theorem dX8_make_48 : decode cX8_make 48 = .ok (.ireturn, 1) := by decide +kernel
theorem dX8_meet_0 : decode cX8_meet 0 = .ok (.iload_n 1, 1) := by decide +kernel
theorem dX8_meet_1 : decode cX8_meet 1 = .ok (.ifCond .lt 33, 3) := by decide +kernel
theorem dX8_meet_4 : decode cX8_meet 4 = .ok (.iload_n 1, 1) := by decide +kernel
theorem dX8_meet_5 : decode cX8_meet 5 = .ok (.sipush 3600, 3) := by decide +kernel
theorem dX8_meet_8 : decode cX8_meet 8 = .ok (.if_icmp .ge 26, 3) := by decide +kernel
theorem dX8_meet_11 : decode cX8_meet 11 = .ok (.aload_n 0, 1) := by decide +kernel
theorem dX8_meet_12 : decode cX8_meet 12 = .ok (.getfield 28, 3) := by decide +kernel
theorem dX8_meet_15 : decode cX8_meet 15 = .ok (.iload_n 1, 1) := by decide +kernel
theorem dX8_meet_16 : decode cX8_meet 16 = .ok (.iaload, 1) := by decide +kernel
theorem dX8_meet_17 : decode cX8_meet 17 = .ok (.aload_n 0, 1) := by decide +kernel
theorem dX8_meet_18 : decode cX8_meet 18 = .ok (.getfield 64, 3) := by decide +kernel
theorem dX8_meet_21 : decode cX8_meet 21 = .ok (.if_icmp .eq 13, 3) := by decide +kernel
theorem dX8_meet_24 : decode cX8_meet 24 = .ok (.aload_n 0, 1) := by decide +kernel
theorem dX8_meet_25 : decode cX8_meet 25 = .ok (.getfield 67, 3) := by decide +kernel
theorem dX8_meet_28 : decode cX8_meet 28 = .ok (.sipush 3600, 3) := by decide +kernel
theorem dX8_meet_31 : decode cX8_meet 31 = .ok (.if_icmp .lt 4, 3) := by decide +kernel
theorem dX8_meet_34 : decode cX8_meet 34 = .ok (.return_, 1) := by decide +kernel
theorem dX8_meet_35 : decode cX8_meet 35 = .ok (.aload_n 0, 1) := by decide +kernel
theorem dX8_meet_36 : decode cX8_meet 36 = .ok (.getfield 28, 3) := by decide +kernel
theorem dX8_meet_39 : decode cX8_meet 39 = .ok (.iload_n 1, 1) := by decide +kernel
theorem dX8_meet_40 : decode cX8_meet 40 = .ok (.aload_n 0, 1) := by decide +kernel
theorem dX8_meet_41 : decode cX8_meet 41 = .ok (.getfield 64, 3) := by decide +kernel
theorem dX8_meet_44 : decode cX8_meet 44 = .ok (.iastore, 1) := by decide +kernel
theorem dX8_meet_45 : decode cX8_meet 45 = .ok (.aload_n 0, 1) := by decide +kernel
theorem dX8_meet_46 : decode cX8_meet 46 = .ok (.getfield 32, 3) := by decide +kernel
theorem dX8_meet_49 : decode cX8_meet 49 = .ok (.aload_n 0, 1) := by decide +kernel
theorem dX8_meet_50 : decode cX8_meet 50 = .ok (.getfield 67, 3) := by decide +kernel
theorem dX8_meet_53 : decode cX8_meet 53 = .ok (.iload_n 1, 1) := by decide +kernel
theorem dX8_meet_54 : decode cX8_meet 54 = .ok (.iastore, 1) := by decide +kernel
theorem dX8_meet_55 : decode cX8_meet 55 = .ok (.aload_n 0, 1) := by decide +kernel
theorem dX8_meet_56 : decode cX8_meet 56 = .ok (.getfield 35, 3) := by decide +kernel
theorem dX8_meet_59 : decode cX8_meet 59 = .ok (.aload_n 0, 1) := by decide +kernel
theorem dX8_meet_60 : decode cX8_meet 60 = .ok (.getfield 67, 3) := by decide +kernel
theorem dX8_meet_63 : decode cX8_meet 63 = .ok (.iload_n 2, 1) := by decide +kernel
theorem dX8_meet_64 : decode cX8_meet 64 = .ok (.iastore, 1) := by decide +kernel
theorem dX8_meet_65 : decode cX8_meet 65 = .ok (.aload_n 0, 1) := by decide +kernel
theorem dX8_meet_66 : decode cX8_meet 66 = .ok (.getfield 38, 3) := by decide +kernel
theorem dX8_meet_69 : decode cX8_meet 69 = .ok (.aload_n 0, 1) := by decide +kernel
theorem dX8_meet_70 : decode cX8_meet 70 = .ok (.getfield 67, 3) := by decide +kernel
theorem dX8_meet_73 : decode cX8_meet 73 = .ok (.iload_n 3, 1) := by decide +kernel
theorem dX8_meet_74 : decode cX8_meet 74 = .ok (.iastore, 1) := by decide +kernel
theorem dX8_meet_75 : decode cX8_meet 75 = .ok (.aload_n 0, 1) := by decide +kernel
theorem dX8_meet_76 : decode cX8_meet 76 = .ok (.dup, 1) := by decide +kernel
theorem dX8_meet_77 : decode cX8_meet 77 = .ok (.getfield 67, 3) := by decide +kernel
theorem dX8_meet_80 : decode cX8_meet 80 = .ok (.iconst 1, 1) := by decide +kernel
theorem dX8_meet_81 : decode cX8_meet 81 = .ok (.iadd, 1) := by decide +kernel
theorem dX8_meet_82 : decode cX8_meet 82 = .ok (.putfield 67, 3) := by decide +kernel
theorem dX8_meet_85 : decode cX8_meet 85 = .ok (.return_, 1) := by decide +kernel
theorem dX8_walkBoth_0 : decode cX8_walkBoth 0 = .ok (.aload_n 0, 1) := by decide +kernel
theorem dX8_walkBoth_1 : decode cX8_walkBoth 1 = .ok (.iconst 0, 1) := by decide +kernel
theorem dX8_walkBoth_2 : decode cX8_walkBoth 2 = .ok (.putfield 53, 3) := by decide +kernel
theorem dX8_walkBoth_5 : decode cX8_walkBoth 5 = .ok (.aload_n 0, 1) := by decide +kernel
theorem dX8_walkBoth_6 : decode cX8_walkBoth 6 = .ok (.iconst 0, 1) := by decide +kernel
theorem dX8_walkBoth_7 : decode cX8_walkBoth 7 = .ok (.putfield 57, 3) := by decide +kernel
theorem dX8_walkBoth_10 : decode cX8_walkBoth 10 = .ok (.aload_n 0, 1) := by decide +kernel
theorem dX8_walkBoth_11 : decode cX8_walkBoth 11 = .ok (.iconst (-1), 1) := by decide +kernel
theorem dX8_walkBoth_12 : decode cX8_walkBoth 12 = .ok (.putfield 60, 3) := by decide +kernel
theorem dX8_walkBoth_15 : decode cX8_walkBoth 15 = .ok (.aload_n 0, 1) := by decide +kernel
theorem dX8_walkBoth_16 : decode cX8_walkBoth 16 = .ok (.dup, 1) := by decide +kernel
theorem dX8_walkBoth_17 : decode cX8_walkBoth 17 = .ok (.getfield 64, 3) := by decide +kernel
theorem dX8_walkBoth_20 : decode cX8_walkBoth 20 = .ok (.iconst 1, 1) := by decide +kernel
theorem dX8_walkBoth_21 : decode cX8_walkBoth 21 = .ok (.iadd, 1) := by decide +kernel
theorem dX8_walkBoth_22 : decode cX8_walkBoth 22 = .ok (.putfield 64, 3) := by decide +kernel
theorem dX8_walkBoth_25 : decode cX8_walkBoth 25 = .ok (.aload_n 0, 1) := by decide +kernel
theorem dX8_walkBoth_26 : decode cX8_walkBoth 26 = .ok (.iconst 0, 1) := by decide +kernel
theorem dX8_walkBoth_27 : decode cX8_walkBoth 27 = .ok (.putfield 67, 3) := by decide +kernel
theorem dX8_walkBoth_30 : decode cX8_walkBoth 30 = .ok (.aload_n 0, 1) := by decide +kernel
theorem dX8_walkBoth_31 : decode cX8_walkBoth 31 = .ok (.iconst 0, 1) := by decide +kernel
theorem dX8_walkBoth_32 : decode cX8_walkBoth 32 = .ok (.iconst (-1), 1) := by decide +kernel
theorem dX8_walkBoth_33 : decode cX8_walkBoth 33 = .ok (.iconst 0, 1) := by decide +kernel
theorem dX8_walkBoth_34 : decode cX8_walkBoth 34 = .ok (.invokevirtual 70, 3) := by decide +kernel
theorem dX8_walkBoth_37 : decode cX8_walkBoth 37 = .ok (.iconst 0, 1) := by decide +kernel
theorem dX8_walkBoth_38 : decode cX8_walkBoth 38 = .ok (.istore_n 1, 1) := by decide +kernel
theorem dX8_walkBoth_39 : decode cX8_walkBoth 39 = .ok (.iload_n 1, 1) := by decide +kernel
theorem dX8_walkBoth_40 : decode cX8_walkBoth 40 = .ok (.aload_n 0, 1) := by decide +kernel
theorem dX8_walkBoth_41 : decode cX8_walkBoth 41 = .ok (.getfield 67, 3) := by decide +kernel
theorem dX8_walkBoth_44 : decode cX8_walkBoth 44 = .ok (.if_icmp .ge 116, 3) := by decide +kernel
theorem dX8_walkBoth_47 : decode cX8_walkBoth 47 = .ok (.iload_n 1, 1) := by decide +kernel
theorem dX8_walkBoth_48 : decode cX8_walkBoth 48 = .ok (.sipush 3600, 3) := by decide +kernel
theorem dX8_walkBoth_51 : decode cX8_walkBoth 51 = .ok (.if_icmp .ge 109, 3) := by decide +kernel
theorem dX8_walkBoth_54 : decode cX8_walkBoth 54 = .ok (.aload_n 0, 1) := by decide +kernel
theorem dX8_walkBoth_55 : decode cX8_walkBoth 55 = .ok (.getfield 32, 3) := by decide +kernel
theorem dX8_walkBoth_58 : decode cX8_walkBoth 58 = .ok (.iload_n 1, 1) := by decide +kernel
theorem dX8_walkBoth_59 : decode cX8_walkBoth 59 = .ok (.iaload, 1) := by decide +kernel
theorem dX8_walkBoth_60 : decode cX8_walkBoth 60 = .ok (.bipush 60, 2) := by decide +kernel
theorem dX8_walkBoth_62 : decode cX8_walkBoth 62 = .ok (.idiv, 1) := by decide +kernel
theorem dX8_walkBoth_63 : decode cX8_walkBoth 63 = .ok (.istore_n 2, 1) := by decide +kernel
theorem dX8_walkBoth_64 : decode cX8_walkBoth 64 = .ok (.aload_n 0, 1) := by decide +kernel
theorem dX8_walkBoth_65 : decode cX8_walkBoth 65 = .ok (.getfield 32, 3) := by decide +kernel
theorem dX8_walkBoth_68 : decode cX8_walkBoth 68 = .ok (.iload_n 1, 1) := by decide +kernel
theorem dX8_walkBoth_69 : decode cX8_walkBoth 69 = .ok (.iaload, 1) := by decide +kernel
theorem dX8_walkBoth_70 : decode cX8_walkBoth 70 = .ok (.bipush 60, 2) := by decide +kernel
theorem dX8_walkBoth_72 : decode cX8_walkBoth 72 = .ok (.irem, 1) := by decide +kernel
theorem dX8_walkBoth_73 : decode cX8_walkBoth 73 = .ok (.istore_n 3, 1) := by decide +kernel
theorem dX8_walkBoth_74 : decode cX8_walkBoth 74 = .ok (.aload_n 0, 1) := by decide +kernel
theorem dX8_walkBoth_75 : decode cX8_walkBoth 75 = .ok (.iload_n 1, 1) := by decide +kernel
theorem dX8_walkBoth_76 : decode cX8_walkBoth 76 = .ok (.aload_n 0, 1) := by decide +kernel
theorem dX8_walkBoth_77 : decode cX8_walkBoth 77 = .ok (.getfield 21, 3) := by decide +kernel
theorem dX8_walkBoth_80 : decode cX8_walkBoth 80 = .ok (.iload_n 2, 1) := by decide +kernel
theorem dX8_walkBoth_81 : decode cX8_walkBoth 81 = .ok (.invokevirtual 74, 3) := by decide +kernel
theorem dX8_walkBoth_84 : decode cX8_walkBoth 84 = .ok (.aload_n 0, 1) := by decide +kernel
theorem dX8_walkBoth_85 : decode cX8_walkBoth 85 = .ok (.getfield 25, 3) := by decide +kernel
theorem dX8_walkBoth_88 : decode cX8_walkBoth 88 = .ok (.iload_n 3, 1) := by decide +kernel
theorem dX8_walkBoth_89 : decode cX8_walkBoth 89 = .ok (.invokevirtual 74, 3) := by decide +kernel
theorem dX8_walkBoth_92 : decode cX8_walkBoth 92 = .ok (.invokevirtual 78, 3) := by decide +kernel
theorem dX8_walkBoth_95 : decode cX8_walkBoth 95 = .ok (.iconst 0, 1) := by decide +kernel
theorem dX8_walkBoth_96 : decode cX8_walkBoth 96 = .ok (.istore 4, 2) := by decide +kernel
theorem dX8_walkBoth_98 : decode cX8_walkBoth 98 = .ok (.iload 4, 2) := by decide +kernel
theorem dX8_walkBoth_100 : decode cX8_walkBoth 100 = .ok (.aload_n 0, 1) := by decide +kernel
theorem dX8_walkBoth_101 : decode cX8_walkBoth 101 = .ok (.getfield 12, 3) := by decide +kernel
theorem dX8_walkBoth_104 : decode cX8_walkBoth 104 = .ok (.getfield 82, 3) := by decide +kernel
theorem dX8_walkBoth_107 : decode cX8_walkBoth 107 = .ok (.if_icmp .ge 47, 3) := by decide +kernel
theorem dX8_walkBoth_110 : decode cX8_walkBoth 110 = .ok (.aload_n 0, 1) := by decide +kernel
theorem dX8_walkBoth_111 : decode cX8_walkBoth 111 = .ok (.aload_n 0, 1) := by decide +kernel
theorem dX8_walkBoth_112 : decode cX8_walkBoth 112 = .ok (.getfield 21, 3) := by decide +kernel
theorem dX8_walkBoth_115 : decode cX8_walkBoth 115 = .ok (.iload_n 2, 1) := by decide +kernel
theorem dX8_walkBoth_116 : decode cX8_walkBoth 116 = .ok (.iload 4, 2) := by decide +kernel
theorem dX8_walkBoth_118 : decode cX8_walkBoth 118 = .ok (.invokevirtual 85, 3) := by decide +kernel
theorem dX8_walkBoth_121 : decode cX8_walkBoth 121 = .ok (.bipush 60, 2) := by decide +kernel
theorem dX8_walkBoth_123 : decode cX8_walkBoth 123 = .ok (.imul, 1) := by decide +kernel
theorem dX8_walkBoth_124 : decode cX8_walkBoth 124 = .ok (.aload_n 0, 1) := by decide +kernel
theorem dX8_walkBoth_125 : decode cX8_walkBoth 125 = .ok (.getfield 25, 3) := by decide +kernel
theorem dX8_walkBoth_128 : decode cX8_walkBoth 128 = .ok (.iload_n 3, 1) := by decide +kernel
theorem dX8_walkBoth_129 : decode cX8_walkBoth 129 = .ok (.iload 4, 2) := by decide +kernel
theorem dX8_walkBoth_131 : decode cX8_walkBoth 131 = .ok (.invokevirtual 85, 3) := by decide +kernel
theorem dX8_walkBoth_134 : decode cX8_walkBoth 134 = .ok (.iadd, 1) := by decide +kernel
theorem dX8_walkBoth_135 : decode cX8_walkBoth 135 = .ok (.iload_n 1, 1) := by decide +kernel
theorem dX8_walkBoth_136 : decode cX8_walkBoth 136 = .ok (.aload_n 0, 1) := by decide +kernel
theorem dX8_walkBoth_137 : decode cX8_walkBoth 137 = .ok (.getfield 12, 3) := by decide +kernel
theorem dX8_walkBoth_140 : decode cX8_walkBoth 140 = .ok (.iload 4, 2) := by decide +kernel
theorem dX8_walkBoth_142 : decode cX8_walkBoth 142 = .ok (.invokevirtual 89, 3) := by decide +kernel
theorem dX8_walkBoth_145 : decode cX8_walkBoth 145 = .ok (.invokevirtual 70, 3) := by decide +kernel
theorem dX8_walkBoth_148 : decode cX8_walkBoth 148 = .ok (.iinc 4 1, 3) := by decide +kernel
theorem dX8_walkBoth_151 : decode cX8_walkBoth 151 = .ok (.goto (-53), 3) := by decide +kernel
theorem dX8_walkBoth_154 : decode cX8_walkBoth 154 = .ok (.iinc 1 1, 3) := by decide +kernel
theorem dX8_walkBoth_157 : decode cX8_walkBoth 157 = .ok (.goto (-118), 3) := by decide +kernel
theorem dX8_walkBoth_160 : decode cX8_walkBoth 160 = .ok (.return_, 1) := by decide +kernel
theorem dX8_writeParting_0 : decode cX8_writeParting 0 = .ok (.aload_n 1, 1) := by decide +kernel
theorem dX8_writeParting_1 : decode cX8_writeParting 1 = .ok (.invokevirtual 93, 3) := by decide +kernel
theorem dX8_writeParting_4 : decode cX8_writeParting 4 = .ok (.aload_n 0, 1) := by decide +kernel
theorem dX8_writeParting_5 : decode cX8_writeParting 5 = .ok (.getfield 60, 3) := by decide +kernel
theorem dX8_writeParting_8 : decode cX8_writeParting 8 = .ok (.istore_n 2, 1) := by decide +kernel
theorem dX8_writeParting_9 : decode cX8_writeParting 9 = .ok (.iload_n 2, 1) := by decide +kernel
theorem dX8_writeParting_10 : decode cX8_writeParting 10 = .ok (.ifCond .le 30, 3) := by decide +kernel
theorem dX8_writeParting_13 : decode cX8_writeParting 13 = .ok (.iload_n 2, 1) := by decide +kernel
theorem dX8_writeParting_14 : decode cX8_writeParting 14 = .ok (.sipush 3600, 3) := by decide +kernel
theorem dX8_writeParting_17 : decode cX8_writeParting 17 = .ok (.if_icmp .ge 23, 3) := by decide +kernel
theorem dX8_writeParting_20 : decode cX8_writeParting 20 = .ok (.aload_n 1, 1) := by decide +kernel
theorem dX8_writeParting_21 : decode cX8_writeParting 21 = .ok (.aload_n 0, 1) := by decide +kernel
theorem dX8_writeParting_22 : decode cX8_writeParting 22 = .ok (.getfield 38, 3) := by decide +kernel
theorem dX8_writeParting_25 : decode cX8_writeParting 25 = .ok (.iload_n 2, 1) := by decide +kernel
theorem dX8_writeParting_26 : decode cX8_writeParting 26 = .ok (.iaload, 1) := by decide +kernel
theorem dX8_writeParting_27 : decode cX8_writeParting 27 = .ok (.invokevirtual 98, 3) := by decide +kernel
theorem dX8_writeParting_30 : decode cX8_writeParting 30 = .ok (.aload_n 0, 1) := by decide +kernel
theorem dX8_writeParting_31 : decode cX8_writeParting 31 = .ok (.getfield 35, 3) := by decide +kernel
theorem dX8_writeParting_34 : decode cX8_writeParting 34 = .ok (.iload_n 2, 1) := by decide +kernel
theorem dX8_writeParting_35 : decode cX8_writeParting 35 = .ok (.iaload, 1) := by decide +kernel
theorem dX8_writeParting_36 : decode cX8_writeParting 36 = .ok (.istore_n 2, 1) := by decide +kernel
theorem dX8_writeParting_37 : decode cX8_writeParting 37 = .ok (.goto (-28), 3) := by decide +kernel
theorem dX8_writeParting_40 : decode cX8_writeParting 40 = .ok (.aload_n 1, 1) := by decide +kernel
theorem dX8_writeParting_41 : decode cX8_writeParting 41 = .ok (.invokevirtual 102, 3) := by decide +kernel
theorem dX8_writeParting_44 : decode cX8_writeParting 44 = .ok (.return_, 1) := by decide +kernel
theorem dX9_ends_0 : decode cX9_ends 0 = .ok (.iload_n 1, 1) := by decide +kernel
theorem dX9_ends_1 : decode cX9_ends 1 = .ok (.ifCond .lt 30, 3) := by decide +kernel
theorem dX9_ends_4 : decode cX9_ends 4 = .ok (.iload_n 1, 1) := by decide +kernel
theorem dX9_ends_5 : decode cX9_ends 5 = .ok (.aload_n 0, 1) := by decide +kernel
theorem dX9_ends_6 : decode cX9_ends 6 = .ok (.getfield 96, 3) := by decide +kernel
theorem dX9_ends_9 : decode cX9_ends 9 = .ok (.if_icmp .ge 22, 3) := by decide +kernel
theorem dX9_ends_12 : decode cX9_ends 12 = .ok (.aload_n 0, 1) := by decide +kernel
theorem dX9_ends_13 : decode cX9_ends 13 = .ok (.getfield 41, 3) := by decide +kernel
theorem dX9_ends_16 : decode cX9_ends 16 = .ok (.iload_n 1, 1) := by decide +kernel
theorem dX9_ends_17 : decode cX9_ends 17 = .ok (.laload, 1) := by decide +kernel
theorem dX9_ends_18 : decode cX9_ends 18 = .ok (.ldc2_w 124, 3) := by decide +kernel
theorem dX9_ends_21 : decode cX9_ends 21 = .ok (.land, 1) := by decide +kernel
theorem dX9_ends_22 : decode cX9_ends 22 = .ok (.lconst 0, 1) := by decide +kernel
theorem dX9_ends_23 : decode cX9_ends 23 = .ok (.lcmp, 1) := by decide +kernel
theorem dX9_ends_24 : decode cX9_ends 24 = .ok (.ifCond .eq 7, 3) := by decide +kernel
theorem dX9_ends_27 : decode cX9_ends 27 = .ok (.iconst 1, 1) := by decide +kernel
theorem dX9_ends_28 : decode cX9_ends 28 = .ok (.goto 4, 3) := by decide +kernel
theorem dX9_ends_31 : decode cX9_ends 31 = .ok (.iconst 0, 1) := by decide +kernel
theorem dX9_ends_32 : decode cX9_ends 32 = .ok (.ireturn, 1) := by decide +kernel
theorem dX9_fewestStates_0 : decode cX9_fewestStates 0 = .ok (.iconst 0, 1) := by decide +kernel
theorem dX9_fewestStates_1 : decode cX9_fewestStates 1 = .ok (.istore_n 1, 1) := by decide +kernel
theorem dX9_fewestStates_2 : decode cX9_fewestStates 2 = .ok (.iconst 0, 1) := by decide +kernel
theorem dX9_fewestStates_3 : decode cX9_fewestStates 3 = .ok (.istore_n 2, 1) := by decide +kernel
theorem dX9_fewestStates_4 : decode cX9_fewestStates 4 = .ok (.iload_n 2, 1) := by decide +kernel
theorem dX9_fewestStates_5 : decode cX9_fewestStates 5 = .ok (.aload_n 0, 1) := by decide +kernel
theorem dX9_fewestStates_6 : decode cX9_fewestStates 6 = .ok (.getfield 96, 3) := by decide +kernel
theorem dX9_fewestStates_9 : decode cX9_fewestStates 9 = .ok (.if_icmp .ge 28, 3) := by decide +kernel
theorem dX9_fewestStates_12 : decode cX9_fewestStates 12 = .ok (.aload_n 0, 1) := by decide +kernel
theorem dX9_fewestStates_13 : decode cX9_fewestStates 13 = .ok (.getfield 51, 3) := by decide +kernel
theorem dX9_fewestStates_16 : decode cX9_fewestStates 16 = .ok (.iload_n 2, 1) := by decide +kernel
theorem dX9_fewestStates_17 : decode cX9_fewestStates 17 = .ok (.aload_n 0, 1) := by decide +kernel
theorem dX9_fewestStates_18 : decode cX9_fewestStates 18 = .ok (.iload_n 2, 1) := by decide +kernel
theorem dX9_fewestStates_19 : decode cX9_fewestStates 19 = .ok (.invokevirtual 152, 3) := by decide +kernel
theorem dX9_fewestStates_22 : decode cX9_fewestStates 22 = .ok (.ifCond .eq 7, 3) := by decide +kernel
theorem dX9_fewestStates_25 : decode cX9_fewestStates 25 = .ok (.iconst 1, 1) := by decide +kernel
theorem dX9_fewestStates_26 : decode cX9_fewestStates 26 = .ok (.goto 4, 3) := by decide +kernel
theorem dX9_fewestStates_29 : decode cX9_fewestStates 29 = .ok (.iconst 0, 1) := by decide +kernel
theorem dX9_fewestStates_30 : decode cX9_fewestStates 30 = .ok (.iastore, 1) := by decide +kernel
theorem dX9_fewestStates_31 : decode cX9_fewestStates 31 = .ok (.iinc 2 1, 3) := by decide +kernel
theorem dX9_fewestStates_34 : decode cX9_fewestStates 34 = .ok (.goto (-30), 3) := by decide +kernel
theorem dX9_fewestStates_37 : decode cX9_fewestStates 37 = .ok (.iconst 0, 1) := by decide +kernel
theorem dX9_fewestStates_38 : decode cX9_fewestStates 38 = .ok (.istore_n 2, 1) := by decide +kernel
theorem dX9_fewestStates_39 : decode cX9_fewestStates 39 = .ok (.iload_n 2, 1) := by decide +kernel
theorem dX9_fewestStates_40 : decode cX9_fewestStates 40 = .ok (.aload_n 0, 1) := by decide +kernel
theorem dX9_fewestStates_41 : decode cX9_fewestStates 41 = .ok (.getfield 96, 3) := by decide +kernel
theorem dX9_fewestStates_44 : decode cX9_fewestStates 44 = .ok (.if_icmp .gt 39, 3) := by decide +kernel
theorem dX9_fewestStates_47 : decode cX9_fewestStates 47 = .ok (.aload_n 0, 1) := by decide +kernel
theorem dX9_fewestStates_48 : decode cX9_fewestStates 48 = .ok (.invokevirtual 158, 3) := by decide +kernel
theorem dX9_fewestStates_51 : decode cX9_fewestStates 51 = .ok (.istore_n 3, 1) := by decide +kernel
theorem dX9_fewestStates_52 : decode cX9_fewestStates 52 = .ok (.aload_n 0, 1) := by decide +kernel
theorem dX9_fewestStates_53 : decode cX9_fewestStates 53 = .ok (.getfield 54, 3) := by decide +kernel
theorem dX9_fewestStates_56 : decode cX9_fewestStates 56 = .ok (.iconst 0, 1) := by decide +kernel
theorem dX9_fewestStates_57 : decode cX9_fewestStates 57 = .ok (.aload_n 0, 1) := by decide +kernel
theorem dX9_fewestStates_58 : decode cX9_fewestStates 58 = .ok (.getfield 51, 3) := by decide +kernel
theorem dX9_fewestStates_61 : decode cX9_fewestStates 61 = .ok (.iconst 0, 1) := by decide +kernel
theorem dX9_fewestStates_62 : decode cX9_fewestStates 62 = .ok (.bipush 60, 2) := by decide +kernel
theorem dX9_fewestStates_64 : decode cX9_fewestStates 64 = .ok (.invokestatic 162, 3) := by decide +kernel
theorem dX9_fewestStates_67 : decode cX9_fewestStates 67 = .ok (.iload_n 3, 1) := by decide +kernel
theorem dX9_fewestStates_68 : decode cX9_fewestStates 68 = .ok (.iload_n 1, 1) := by decide +kernel
theorem dX9_fewestStates_69 : decode cX9_fewestStates 69 = .ok (.if_icmp .ne 6, 3) := by decide +kernel
theorem dX9_fewestStates_72 : decode cX9_fewestStates 72 = .ok (.goto 11, 3) := by decide +kernel
theorem dX9_fewestStates_75 : decode cX9_fewestStates 75 = .ok (.iload_n 3, 1) := by decide +kernel
theorem dX9_fewestStates_76 : decode cX9_fewestStates 76 = .ok (.istore_n 1, 1) := by decide +kernel
theorem dX9_fewestStates_77 : decode cX9_fewestStates 77 = .ok (.iinc 2 1, 3) := by decide +kernel
theorem dX9_fewestStates_80 : decode cX9_fewestStates 80 = .ok (.goto (-41), 3) := by decide +kernel
theorem dX9_fewestStates_83 : decode cX9_fewestStates 83 = .ok (.iload_n 1, 1) := by decide +kernel
theorem dX9_fewestStates_84 : decode cX9_fewestStates 84 = .ok (.ireturn, 1) := by decide +kernel
