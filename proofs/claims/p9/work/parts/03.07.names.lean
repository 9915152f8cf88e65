theorem chX11_gift_0_07 : ((cX11_gift.data.toList.drop 0).take 16).map UInt8.toNat = [42, 180, 0, 147, 42, 180, 1, 80, 27, 79, 42, 180, 0, 150, 42, 180] := by decide +kernel
theorem dX11_gift_10 : decode cX11_gift 10 = .ok (.aload_n 0, 1) := dk42 (rd_c chX11_gift_0_07 (j := 10) rfl rfl)
theorem dX11_gift_11 : decode cX11_gift 11 = .ok (.getfield 150, 3) := dk180 (rd_c chX11_gift_0_07 (j := 11) rfl rfl) (rd_c chX11_gift_0_07 (j := 12) rfl rfl) (rd_c chX11_gift_0_07 (j := 13) rfl rfl) rfl
theorem dX11_gift_14 : decode cX11_gift 14 = .ok (.aload_n 0, 1) := dk42 (rd_c chX11_gift_0_07 (j := 14) rfl rfl)
theorem chX11_gift_1_07 : ((cX11_gift.data.toList.drop 16).take 16).map UInt8.toNat = [1, 80, 28, 79, 42, 180, 0, 156, 42, 180, 1, 80, 33, 80, 42, 180] := by decide +kernel
theorem dX11_gift_15 : decode cX11_gift 15 = .ok (.getfield 336, 3) := dk180 (rd_c chX11_gift_0_07 (j := 15) rfl rfl) (rd_c chX11_gift_1_07 (j := 0) rfl rfl) (rd_c chX11_gift_1_07 (j := 1) rfl rfl) rfl
theorem dX11_gift_18 : decode cX11_gift 18 = .ok (.iload_n 2, 1) := dk28 (rd_c chX11_gift_1_07 (j := 2) rfl rfl)
theorem dX11_gift_19 : decode cX11_gift 19 = .ok (.iastore, 1) := dk79 (rd_c chX11_gift_1_07 (j := 3) rfl rfl)
theorem dX11_gift_20 : decode cX11_gift 20 = .ok (.aload_n 0, 1) := dk42 (rd_c chX11_gift_1_07 (j := 4) rfl rfl)
theorem dX11_gift_21 : decode cX11_gift 21 = .ok (.getfield 156, 3) := dk180 (rd_c chX11_gift_1_07 (j := 5) rfl rfl) (rd_c chX11_gift_1_07 (j := 6) rfl rfl) (rd_c chX11_gift_1_07 (j := 7) rfl rfl) rfl
theorem dX11_gift_24 : decode cX11_gift 24 = .ok (.aload_n 0, 1) := dk42 (rd_c chX11_gift_1_07 (j := 8) rfl rfl)
theorem dX11_gift_25 : decode cX11_gift 25 = .ok (.getfield 336, 3) := dk180 (rd_c chX11_gift_1_07 (j := 9) rfl rfl) (rd_c chX11_gift_1_07 (j := 10) rfl rfl) (rd_c chX11_gift_1_07 (j := 11) rfl rfl) rfl
theorem dX11_gift_28 : decode cX11_gift 28 = .ok (.lload_n 3, 1) := dk33 (rd_c chX11_gift_1_07 (j := 12) rfl rfl)
theorem dX11_gift_29 : decode cX11_gift 29 = .ok (.lastore, 1) := dk80 (rd_c chX11_gift_1_07 (j := 13) rfl rfl)
theorem dX11_gift_30 : decode cX11_gift 30 = .ok (.aload_n 0, 1) := dk42 (rd_c chX11_gift_1_07 (j := 14) rfl rfl)
theorem chX11_gift_2_07 : ((cX11_gift.data.toList.drop 32).take 16).map UInt8.toNat = [0, 153, 42, 180, 1, 80, 21, 5, 79, 42, 89, 180, 1, 80, 4, 96] := by decide +kernel
theorem dX11_gift_31 : decode cX11_gift 31 = .ok (.getfield 153, 3) := dk180 (rd_c chX11_gift_1_07 (j := 15) rfl rfl) (rd_c chX11_gift_2_07 (j := 0) rfl rfl) (rd_c chX11_gift_2_07 (j := 1) rfl rfl) rfl
theorem dX11_gift_34 : decode cX11_gift 34 = .ok (.aload_n 0, 1) := dk42 (rd_c chX11_gift_2_07 (j := 2) rfl rfl)
theorem dX11_gift_35 : decode cX11_gift 35 = .ok (.getfield 336, 3) := dk180 (rd_c chX11_gift_2_07 (j := 3) rfl rfl) (rd_c chX11_gift_2_07 (j := 4) rfl rfl) (rd_c chX11_gift_2_07 (j := 5) rfl rfl) rfl
theorem dX11_gift_38 : decode cX11_gift 38 = .ok (.iload 5, 2) := dk21 (rd_c chX11_gift_2_07 (j := 6) rfl rfl) (rd_c chX11_gift_2_07 (j := 7) rfl rfl)
theorem dX11_gift_40 : decode cX11_gift 40 = .ok (.iastore, 1) := dk79 (rd_c chX11_gift_2_07 (j := 8) rfl rfl)
theorem dX11_gift_41 : decode cX11_gift 41 = .ok (.aload_n 0, 1) := dk42 (rd_c chX11_gift_2_07 (j := 9) rfl rfl)
theorem dX11_gift_42 : decode cX11_gift 42 = .ok (.dup, 1) := dk89 (rd_c chX11_gift_2_07 (j := 10) rfl rfl)
theorem dX11_gift_43 : decode cX11_gift 43 = .ok (.getfield 336, 3) := dk180 (rd_c chX11_gift_2_07 (j := 11) rfl rfl) (rd_c chX11_gift_2_07 (j := 12) rfl rfl) (rd_c chX11_gift_2_07 (j := 13) rfl rfl) rfl
theorem dX11_gift_46 : decode cX11_gift 46 = .ok (.iconst 1, 1) := dk4 (rd_c chX11_gift_2_07 (j := 14) rfl rfl)
theorem dX11_gift_47 : decode cX11_gift 47 = .ok (.iadd, 1) := dk96 (rd_c chX11_gift_2_07 (j := 15) rfl rfl)
theorem chX11_gift_3_07 : ((cX11_gift.data.toList.drop 48).take 16).map UInt8.toNat = [181, 1, 80, 177] := by decide +kernel
theorem dX11_gift_48 : decode cX11_gift 48 = .ok (.putfield 336, 3) := dk181 (rd_c chX11_gift_3_07 (j := 0) rfl rfl) (rd_c chX11_gift_3_07 (j := 1) rfl rfl) (rd_c chX11_gift_3_07 (j := 2) rfl rfl) rfl
theorem dX11_gift_51 : decode cX11_gift 51 = .ok (.return_, 1) := dk177 (rd_c chX11_gift_3_07 (j := 3) rfl rfl)
set_option maxRecDepth 20000 in
theorem ggX11_nets_X11_gift : GoodIn wsX11_nets wsX11_gift := goodIn_sub (show ∀ w ∈ wsX11_gift, w ∈ wsX11_nets from (List.forall_mem_cons.mpr ⟨List.mem_cons_of_mem _ (List.mem_append_left _ (List.mem_of_getElem? (i := 8) rfl)), (gw_a (List.forall_mem_cons.mpr ⟨List.mem_cons_of_mem _ (List.mem_append_left _ (List.mem_of_getElem? (i := 9) rfl)), (List.forall_mem_cons.mpr ⟨List.mem_cons_of_mem _ (List.mem_append_left _ (List.mem_of_getElem? (i := 0) rfl)), (List.forall_mem_cons.mpr ⟨List.mem_cons_of_mem _ (List.mem_append_left _ (List.mem_of_getElem? (i := 10) rfl)), (List.forall_mem_cons.mpr ⟨List.mem_cons_of_mem _ (List.mem_append_left _ (List.mem_of_getElem? (i := 11) rfl)), (List.forall_mem_cons.mpr ⟨List.mem_cons_of_mem _ (List.mem_append_left _ (List.mem_of_getElem? (i := 12) rfl)), (fun _ h => absurd h List.not_mem_nil)⟩)⟩)⟩)⟩)⟩) (fun _ h => List.mem_cons_of_mem _ (List.mem_append_right _ (h))))⟩)) (by decide +kernel)
set_option maxRecDepth 20000 in
theorem gX11_nets_X11_gift : GoodIn wsX11_nets (wsV RX11 339 RX11 yX11_gift wsX11_gift) := goodIn_app (goodIn_sub (List.forall_mem_cons.mpr ⟨List.mem_cons_of_mem _ (List.mem_append_left _ (List.mem_of_getElem? (i := 4) rfl)), (List.forall_mem_cons.mpr ⟨List.mem_cons_of_mem _ (List.mem_append_left _ (List.mem_of_getElem? (i := 5) rfl)), (List.forall_mem_cons.mpr ⟨List.mem_cons_of_mem _ (List.mem_append_left _ (List.mem_of_getElem? (i := 6) rfl)), (List.forall_mem_cons.mpr ⟨List.mem_cons_of_mem _ (List.mem_append_left _ (List.mem_of_getElem? (i := 7) rfl)), (fun _ h => absurd h List.not_mem_nil)⟩)⟩)⟩)⟩) (by decide +kernel)) ggX11_nets_X11_gift
theorem chX11_nets_0_07 : ((cX11_nets.data.toList.drop 0).take 16).map UInt8.toNat = [42, 3, 181, 1, 80, 3, 60, 27, 16, 12, 162, 0, 21, 42, 180, 0] := by decide +kernel
theorem dX11_nets_0 : decode cX11_nets 0 = .ok (.aload_n 0, 1) := dk42 (rd_c chX11_nets_0_07 (j := 0) rfl rfl)
theorem dX11_nets_1 : decode cX11_nets 1 = .ok (.iconst 0, 1) := dk3 (rd_c chX11_nets_0_07 (j := 1) rfl rfl)
theorem dX11_nets_2 : decode cX11_nets 2 = .ok (.putfield 336, 3) := dk181 (rd_c chX11_nets_0_07 (j := 2) rfl rfl) (rd_c chX11_nets_0_07 (j := 3) rfl rfl) (rd_c chX11_nets_0_07 (j := 4) rfl rfl) rfl
theorem dX11_nets_5 : decode cX11_nets 5 = .ok (.iconst 0, 1) := dk3 (rd_c chX11_nets_0_07 (j := 5) rfl rfl)
theorem dX11_nets_6 : decode cX11_nets 6 = .ok (.istore_n 1, 1) := dk60 (rd_c chX11_nets_0_07 (j := 6) rfl rfl)
theorem dX11_nets_7 : decode cX11_nets 7 = .ok (.iload_n 1, 1) := dk27 (rd_c chX11_nets_0_07 (j := 7) rfl rfl)
theorem dX11_nets_8 : decode cX11_nets 8 = .ok (.bipush 12, 2) := dk16 (rd_c chX11_nets_0_07 (j := 8) rfl rfl) (rd_c chX11_nets_0_07 (j := 9) rfl rfl) rfl
theorem dX11_nets_10 : decode cX11_nets 10 = .ok (.if_icmp .ge 21, 3) := dk162 (rd_c chX11_nets_0_07 (j := 10) rfl rfl) (rd_c chX11_nets_0_07 (j := 11) rfl rfl) (rd_c chX11_nets_0_07 (j := 12) rfl rfl) rfl
theorem dX11_nets_13 : decode cX11_nets 13 = .ok (.aload_n 0, 1) := dk42 (rd_c chX11_nets_0_07 (j := 13) rfl rfl)
theorem chX11_nets_1_07 : ((cX11_nets.data.toList.drop 16).take 16).map UInt8.toNat = [144, 27, 42, 180, 0, 141, 27, 47, 80, 132, 1, 1, 167, 255, 235, 3] := by decide +kernel
theorem dX11_nets_14 : decode cX11_nets 14 = .ok (.getfield 144, 3) := dk180 (rd_c chX11_nets_0_07 (j := 14) rfl rfl) (rd_c chX11_nets_0_07 (j := 15) rfl rfl) (rd_c chX11_nets_1_07 (j := 0) rfl rfl) rfl
theorem dX11_nets_17 : decode cX11_nets 17 = .ok (.iload_n 1, 1) := dk27 (rd_c chX11_nets_1_07 (j := 1) rfl rfl)
theorem dX11_nets_18 : decode cX11_nets 18 = .ok (.aload_n 0, 1) := dk42 (rd_c chX11_nets_1_07 (j := 2) rfl rfl)
theorem dX11_nets_19 : decode cX11_nets 19 = .ok (.getfield 141, 3) := dk180 (rd_c chX11_nets_1_07 (j := 3) rfl rfl) (rd_c chX11_nets_1_07 (j := 4) rfl rfl) (rd_c chX11_nets_1_07 (j := 5) rfl rfl) rfl
theorem dX11_nets_22 : decode cX11_nets 22 = .ok (.iload_n 1, 1) := dk27 (rd_c chX11_nets_1_07 (j := 6) rfl rfl)
theorem dX11_nets_23 : decode cX11_nets 23 = .ok (.laload, 1) := dk47 (rd_c chX11_nets_1_07 (j := 7) rfl rfl)
theorem dX11_nets_24 : decode cX11_nets 24 = .ok (.lastore, 1) := dk80 (rd_c chX11_nets_1_07 (j := 8) rfl rfl)
theorem dX11_nets_25 : decode cX11_nets 25 = .ok (.iinc 1 1, 3) := dk132 (rd_c chX11_nets_1_07 (j := 9) rfl rfl) (rd_c chX11_nets_1_07 (j := 10) rfl rfl) (rd_c chX11_nets_1_07 (j := 11) rfl rfl) rfl
theorem dX11_nets_28 : decode cX11_nets 28 = .ok (.goto (-21), 3) := dk167 (rd_c chX11_nets_1_07 (j := 12) rfl rfl) (rd_c chX11_nets_1_07 (j := 13) rfl rfl) (rd_c chX11_nets_1_07 (j := 14) rfl rfl) rfl
theorem dX11_nets_31 : decode cX11_nets 31 = .ok (.iconst 0, 1) := dk3 (rd_c chX11_nets_1_07 (j := 15) rfl rfl)
theorem chX11_nets_2_07 : ((cX11_nets.data.toList.drop 32).take 16).map UInt8.toNat = [60, 27, 7, 162, 1, 14, 4, 61, 28, 153, 0, 170, 2, 62, 2, 54] := by decide +kernel
theorem dX11_nets_32 : decode cX11_nets 32 = .ok (.istore_n 1, 1) := dk60 (rd_c chX11_nets_2_07 (j := 0) rfl rfl)
theorem dX11_nets_33 : decode cX11_nets 33 = .ok (.iload_n 1, 1) := dk27 (rd_c chX11_nets_2_07 (j := 1) rfl rfl)
theorem dX11_nets_34 : decode cX11_nets 34 = .ok (.iconst 4, 1) := dk7 (rd_c chX11_nets_2_07 (j := 2) rfl rfl)
theorem dX11_nets_35 : decode cX11_nets 35 = .ok (.if_icmp .ge 270, 3) := dk162 (rd_c chX11_nets_2_07 (j := 3) rfl rfl) (rd_c chX11_nets_2_07 (j := 4) rfl rfl) (rd_c chX11_nets_2_07 (j := 5) rfl rfl) rfl
theorem dX11_nets_38 : decode cX11_nets 38 = .ok (.iconst 1, 1) := dk4 (rd_c chX11_nets_2_07 (j := 6) rfl rfl)
theorem dX11_nets_39 : decode cX11_nets 39 = .ok (.istore_n 2, 1) := dk61 (rd_c chX11_nets_2_07 (j := 7) rfl rfl)
theorem dX11_nets_40 : decode cX11_nets 40 = .ok (.iload_n 2, 1) := dk28 (rd_c chX11_nets_2_07 (j := 8) rfl rfl)
theorem dX11_nets_41 : decode cX11_nets 41 = .ok (.ifCond .eq 170, 3) := dk153 (rd_c chX11_nets_2_07 (j := 9) rfl rfl) (rd_c chX11_nets_2_07 (j := 10) rfl rfl) (rd_c chX11_nets_2_07 (j := 11) rfl rfl) rfl
theorem dX11_nets_44 : decode cX11_nets 44 = .ok (.iconst (-1), 1) := dk2 (rd_c chX11_nets_2_07 (j := 12) rfl rfl)
theorem dX11_nets_45 : decode cX11_nets 45 = .ok (.istore_n 3, 1) := dk62 (rd_c chX11_nets_2_07 (j := 13) rfl rfl)
theorem dX11_nets_46 : decode cX11_nets 46 = .ok (.iconst (-1), 1) := dk2 (rd_c chX11_nets_2_07 (j := 14) rfl rfl)
theorem chX11_nets_3_07 : ((cX11_nets.data.toList.drop 48).take 16).map UInt8.toNat = [4, 16, 11, 54, 5, 21, 5, 155, 0, 62, 42, 180, 0, 17, 21, 5] := by decide +kernel
theorem dX11_nets_47 : decode cX11_nets 47 = .ok (.istore 4, 2) := dk54 (rd_c chX11_nets_2_07 (j := 15) rfl rfl) (rd_c chX11_nets_3_07 (j := 0) rfl rfl)
theorem dX11_nets_49 : decode cX11_nets 49 = .ok (.bipush 11, 2) := dk16 (rd_c chX11_nets_3_07 (j := 1) rfl rfl) (rd_c chX11_nets_3_07 (j := 2) rfl rfl) rfl
theorem dX11_nets_51 : decode cX11_nets 51 = .ok (.istore 5, 2) := dk54 (rd_c chX11_nets_3_07 (j := 3) rfl rfl) (rd_c chX11_nets_3_07 (j := 4) rfl rfl)
theorem dX11_nets_53 : decode cX11_nets 53 = .ok (.iload 5, 2) := dk21 (rd_c chX11_nets_3_07 (j := 5) rfl rfl) (rd_c chX11_nets_3_07 (j := 6) rfl rfl)
theorem dX11_nets_55 : decode cX11_nets 55 = .ok (.ifCond .lt 62, 3) := dk155 (rd_c chX11_nets_3_07 (j := 7) rfl rfl) (rd_c chX11_nets_3_07 (j := 8) rfl rfl) (rd_c chX11_nets_3_07 (j := 9) rfl rfl) rfl
theorem dX11_nets_58 : decode cX11_nets 58 = .ok (.aload_n 0, 1) := dk42 (rd_c chX11_nets_3_07 (j := 10) rfl rfl)
theorem dX11_nets_59 : decode cX11_nets 59 = .ok (.getfield 17, 3) := dk180 (rd_c chX11_nets_3_07 (j := 11) rfl rfl) (rd_c chX11_nets_3_07 (j := 12) rfl rfl) (rd_c chX11_nets_3_07 (j := 13) rfl rfl) rfl
theorem dX11_nets_62 : decode cX11_nets 62 = .ok (.iload 5, 2) := dk21 (rd_c chX11_nets_3_07 (j := 14) rfl rfl) (rd_c chX11_nets_3_07 (j := 15) rfl rfl)
theorem chX11_nets_4_07 : ((cX11_nets.data.toList.drop 64).take 16).map UInt8.toNat = [46, 27, 160, 0, 18, 42, 180, 0, 144, 21, 5, 47, 9, 148, 156, 0] := by decide +kernel
theorem dX11_nets_64 : decode cX11_nets 64 = .ok (.iaload, 1) := dk46 (rd_c chX11_nets_4_07 (j := 0) rfl rfl)
theorem dX11_nets_65 : decode cX11_nets 65 = .ok (.iload_n 1, 1) := dk27 (rd_c chX11_nets_4_07 (j := 1) rfl rfl)
theorem dX11_nets_66 : decode cX11_nets 66 = .ok (.if_icmp .ne 18, 3) := dk160 (rd_c chX11_nets_4_07 (j := 2) rfl rfl) (rd_c chX11_nets_4_07 (j := 3) rfl rfl) (rd_c chX11_nets_4_07 (j := 4) rfl rfl) rfl
theorem dX11_nets_69 : decode cX11_nets 69 = .ok (.aload_n 0, 1) := dk42 (rd_c chX11_nets_4_07 (j := 5) rfl rfl)
theorem dX11_nets_70 : decode cX11_nets 70 = .ok (.getfield 144, 3) := dk180 (rd_c chX11_nets_4_07 (j := 6) rfl rfl) (rd_c chX11_nets_4_07 (j := 7) rfl rfl) (rd_c chX11_nets_4_07 (j := 8) rfl rfl) rfl
theorem dX11_nets_73 : decode cX11_nets 73 = .ok (.iload 5, 2) := dk21 (rd_c chX11_nets_4_07 (j := 9) rfl rfl) (rd_c chX11_nets_4_07 (j := 10) rfl rfl)
theorem dX11_nets_75 : decode cX11_nets 75 = .ok (.laload, 1) := dk47 (rd_c chX11_nets_4_07 (j := 11) rfl rfl)
theorem dX11_nets_76 : decode cX11_nets 76 = .ok (.lconst 0, 1) := dk9 (rd_c chX11_nets_4_07 (j := 12) rfl rfl)
theorem dX11_nets_77 : decode cX11_nets 77 = .ok (.lcmp, 1) := dk148 (rd_c chX11_nets_4_07 (j := 13) rfl rfl)
theorem chX11_nets_5_07 : ((cX11_nets.data.toList.drop 80).take 16).map UInt8.toNat = [6, 21, 5, 62, 42, 180, 0, 17, 21, 5, 46, 27, 160, 0, 19, 42] := by decide +kernel
theorem dX11_nets_78 : decode cX11_nets 78 = .ok (.ifCond .ge 6, 3) := dk156 (rd_c chX11_nets_4_07 (j := 14) rfl rfl) (rd_c chX11_nets_4_07 (j := 15) rfl rfl) (rd_c chX11_nets_5_07 (j := 0) rfl rfl) rfl
theorem dX11_nets_81 : decode cX11_nets 81 = .ok (.iload 5, 2) := dk21 (rd_c chX11_nets_5_07 (j := 1) rfl rfl) (rd_c chX11_nets_5_07 (j := 2) rfl rfl)
theorem dX11_nets_83 : decode cX11_nets 83 = .ok (.istore_n 3, 1) := dk62 (rd_c chX11_nets_5_07 (j := 3) rfl rfl)
theorem dX11_nets_84 : decode cX11_nets 84 = .ok (.aload_n 0, 1) := dk42 (rd_c chX11_nets_5_07 (j := 4) rfl rfl)
theorem dX11_nets_85 : decode cX11_nets 85 = .ok (.getfield 17, 3) := dk180 (rd_c chX11_nets_5_07 (j := 5) rfl rfl) (rd_c chX11_nets_5_07 (j := 6) rfl rfl) (rd_c chX11_nets_5_07 (j := 7) rfl rfl) rfl
theorem dX11_nets_88 : decode cX11_nets 88 = .ok (.iload 5, 2) := dk21 (rd_c chX11_nets_5_07 (j := 8) rfl rfl) (rd_c chX11_nets_5_07 (j := 9) rfl rfl)
theorem dX11_nets_90 : decode cX11_nets 90 = .ok (.iaload, 1) := dk46 (rd_c chX11_nets_5_07 (j := 10) rfl rfl)
theorem dX11_nets_91 : decode cX11_nets 91 = .ok (.iload_n 1, 1) := dk27 (rd_c chX11_nets_5_07 (j := 11) rfl rfl)
theorem dX11_nets_92 : decode cX11_nets 92 = .ok (.if_icmp .ne 19, 3) := dk160 (rd_c chX11_nets_5_07 (j := 12) rfl rfl) (rd_c chX11_nets_5_07 (j := 13) rfl rfl) (rd_c chX11_nets_5_07 (j := 14) rfl rfl) rfl
theorem dX11_nets_95 : decode cX11_nets 95 = .ok (.aload_n 0, 1) := dk42 (rd_c chX11_nets_5_07 (j := 15) rfl rfl)
theorem chX11_nets_6_07 : ((cX11_nets.data.toList.drop 96).take 16).map UInt8.toNat = [180, 0, 144, 21, 5, 47, 9, 148, 158, 0, 7, 21, 5, 54, 4, 132] := by decide +kernel
theorem dX11_nets_96 : decode cX11_nets 96 = .ok (.getfield 144, 3) := dk180 (rd_c chX11_nets_6_07 (j := 0) rfl rfl) (rd_c chX11_nets_6_07 (j := 1) rfl rfl) (rd_c chX11_nets_6_07 (j := 2) rfl rfl) rfl
theorem dX11_nets_99 : decode cX11_nets 99 = .ok (.iload 5, 2) := dk21 (rd_c chX11_nets_6_07 (j := 3) rfl rfl) (rd_c chX11_nets_6_07 (j := 4) rfl rfl)
theorem dX11_nets_101 : decode cX11_nets 101 = .ok (.laload, 1) := dk47 (rd_c chX11_nets_6_07 (j := 5) rfl rfl)
theorem dX11_nets_102 : decode cX11_nets 102 = .ok (.lconst 0, 1) := dk9 (rd_c chX11_nets_6_07 (j := 6) rfl rfl)
theorem dX11_nets_103 : decode cX11_nets 103 = .ok (.lcmp, 1) := dk148 (rd_c chX11_nets_6_07 (j := 7) rfl rfl)
theorem dX11_nets_104 : decode cX11_nets 104 = .ok (.ifCond .le 7, 3) := dk158 (rd_c chX11_nets_6_07 (j := 8) rfl rfl) (rd_c chX11_nets_6_07 (j := 9) rfl rfl) (rd_c chX11_nets_6_07 (j := 10) rfl rfl) rfl
theorem dX11_nets_107 : decode cX11_nets 107 = .ok (.iload 5, 2) := dk21 (rd_c chX11_nets_6_07 (j := 11) rfl rfl) (rd_c chX11_nets_6_07 (j := 12) rfl rfl)
theorem dX11_nets_109 : decode cX11_nets 109 = .ok (.istore 4, 2) := dk54 (rd_c chX11_nets_6_07 (j := 13) rfl rfl) (rd_c chX11_nets_6_07 (j := 14) rfl rfl)
theorem chX11_nets_7_07 : ((cX11_nets.data.toList.drop 112).take 16).map UInt8.toNat = [5, 255, 167, 255, 195, 29, 2, 159, 0, 13, 21, 4, 2, 159, 0, 7] := by decide +kernel
theorem dX11_nets_111 : decode cX11_nets 111 = .ok (.iinc 5 (-1), 3) := dk132 (rd_c chX11_nets_6_07 (j := 15) rfl rfl) (rd_c chX11_nets_7_07 (j := 0) rfl rfl) (rd_c chX11_nets_7_07 (j := 1) rfl rfl) rfl
theorem dX11_nets_114 : decode cX11_nets 114 = .ok (.goto (-61), 3) := dk167 (rd_c chX11_nets_7_07 (j := 2) rfl rfl) (rd_c chX11_nets_7_07 (j := 3) rfl rfl) (rd_c chX11_nets_7_07 (j := 4) rfl rfl) rfl
theorem dX11_nets_117 : decode cX11_nets 117 = .ok (.iload_n 3, 1) := dk29 (rd_c chX11_nets_7_07 (j := 5) rfl rfl)
theorem dX11_nets_118 : decode cX11_nets 118 = .ok (.iconst (-1), 1) := dk2 (rd_c chX11_nets_7_07 (j := 6) rfl rfl)
theorem dX11_nets_119 : decode cX11_nets 119 = .ok (.if_icmp .eq 13, 3) := dk159 (rd_c chX11_nets_7_07 (j := 7) rfl rfl) (rd_c chX11_nets_7_07 (j := 8) rfl rfl) (rd_c chX11_nets_7_07 (j := 9) rfl rfl) rfl
theorem dX11_nets_122 : decode cX11_nets 122 = .ok (.iload 4, 2) := dk21 (rd_c chX11_nets_7_07 (j := 10) rfl rfl) (rd_c chX11_nets_7_07 (j := 11) rfl rfl)
theorem dX11_nets_124 : decode cX11_nets 124 = .ok (.iconst (-1), 1) := dk2 (rd_c chX11_nets_7_07 (j := 12) rfl rfl)
theorem dX11_nets_125 : decode cX11_nets 125 = .ok (.if_icmp .eq 7, 3) := dk159 (rd_c chX11_nets_7_07 (j := 13) rfl rfl) (rd_c chX11_nets_7_07 (j := 14) rfl rfl) (rd_c chX11_nets_7_07 (j := 15) rfl rfl) rfl
theorem chX11_nets_8_07 : ((cX11_nets.data.toList.drop 128).take 16).map UInt8.toNat = [4, 167, 0, 4, 3, 61, 28, 153, 0, 73, 42, 180, 0, 144, 29, 47] := by decide +kernel
theorem dX11_nets_128 : decode cX11_nets 128 = .ok (.iconst 1, 1) := dk4 (rd_c chX11_nets_8_07 (j := 0) rfl rfl)
theorem dX11_nets_129 : decode cX11_nets 129 = .ok (.goto 4, 3) := dk167 (rd_c chX11_nets_8_07 (j := 1) rfl rfl) (rd_c chX11_nets_8_07 (j := 2) rfl rfl) (rd_c chX11_nets_8_07 (j := 3) rfl rfl) rfl
theorem dX11_nets_132 : decode cX11_nets 132 = .ok (.iconst 0, 1) := dk3 (rd_c chX11_nets_8_07 (j := 4) rfl rfl)
theorem dX11_nets_133 : decode cX11_nets 133 = .ok (.istore_n 2, 1) := dk61 (rd_c chX11_nets_8_07 (j := 5) rfl rfl)
theorem dX11_nets_134 : decode cX11_nets 134 = .ok (.iload_n 2, 1) := dk28 (rd_c chX11_nets_8_07 (j := 6) rfl rfl)
theorem dX11_nets_135 : decode cX11_nets 135 = .ok (.ifCond .eq 73, 3) := dk153 (rd_c chX11_nets_8_07 (j := 7) rfl rfl) (rd_c chX11_nets_8_07 (j := 8) rfl rfl) (rd_c chX11_nets_8_07 (j := 9) rfl rfl) rfl
theorem dX11_nets_138 : decode cX11_nets 138 = .ok (.aload_n 0, 1) := dk42 (rd_c chX11_nets_8_07 (j := 10) rfl rfl)
theorem dX11_nets_139 : decode cX11_nets 139 = .ok (.getfield 144, 3) := dk180 (rd_c chX11_nets_8_07 (j := 11) rfl rfl) (rd_c chX11_nets_8_07 (j := 12) rfl rfl) (rd_c chX11_nets_8_07 (j := 13) rfl rfl) rfl
theorem dX11_nets_142 : decode cX11_nets 142 = .ok (.iload_n 3, 1) := dk29 (rd_c chX11_nets_8_07 (j := 14) rfl rfl)
theorem dX11_nets_143 : decode cX11_nets 143 = .ok (.laload, 1) := dk47 (rd_c chX11_nets_8_07 (j := 15) rfl rfl)
theorem chX11_nets_9_07 : ((cX11_nets.data.toList.drop 144).take 16).map UInt8.toNat = [117, 42, 180, 0, 144, 21, 4, 47, 148, 156, 0, 13, 42, 180, 0, 144] := by decide +kernel
theorem dX11_nets_144 : decode cX11_nets 144 = .ok (.lneg, 1) := dk117 (rd_c chX11_nets_9_07 (j := 0) rfl rfl)
theorem dX11_nets_145 : decode cX11_nets 145 = .ok (.aload_n 0, 1) := dk42 (rd_c chX11_nets_9_07 (j := 1) rfl rfl)
theorem dX11_nets_146 : decode cX11_nets 146 = .ok (.getfield 144, 3) := dk180 (rd_c chX11_nets_9_07 (j := 2) rfl rfl) (rd_c chX11_nets_9_07 (j := 3) rfl rfl) (rd_c chX11_nets_9_07 (j := 4) rfl rfl) rfl
theorem dX11_nets_149 : decode cX11_nets 149 = .ok (.iload 4, 2) := dk21 (rd_c chX11_nets_9_07 (j := 5) rfl rfl) (rd_c chX11_nets_9_07 (j := 6) rfl rfl)
theorem dX11_nets_151 : decode cX11_nets 151 = .ok (.laload, 1) := dk47 (rd_c chX11_nets_9_07 (j := 7) rfl rfl)
theorem dX11_nets_152 : decode cX11_nets 152 = .ok (.lcmp, 1) := dk148 (rd_c chX11_nets_9_07 (j := 8) rfl rfl)
theorem dX11_nets_153 : decode cX11_nets 153 = .ok (.ifCond .ge 13, 3) := dk156 (rd_c chX11_nets_9_07 (j := 9) rfl rfl) (rd_c chX11_nets_9_07 (j := 10) rfl rfl) (rd_c chX11_nets_9_07 (j := 11) rfl rfl) rfl
theorem dX11_nets_156 : decode cX11_nets 156 = .ok (.aload_n 0, 1) := dk42 (rd_c chX11_nets_9_07 (j := 12) rfl rfl)
theorem dX11_nets_157 : decode cX11_nets 157 = .ok (.getfield 144, 3) := dk180 (rd_c chX11_nets_9_07 (j := 13) rfl rfl) (rd_c chX11_nets_9_07 (j := 14) rfl rfl) (rd_c chX11_nets_9_07 (j := 15) rfl rfl) rfl
theorem chX11_nets_10_07 : ((cX11_nets.data.toList.drop 160).take 16).map UInt8.toNat = [29, 47, 117, 167, 0, 10, 42, 180, 0, 144, 21, 4, 47, 55, 5, 42] := by decide +kernel
theorem dX11_nets_160 : decode cX11_nets 160 = .ok (.iload_n 3, 1) := dk29 (rd_c chX11_nets_10_07 (j := 0) rfl rfl)
theorem dX11_nets_161 : decode cX11_nets 161 = .ok (.laload, 1) := dk47 (rd_c chX11_nets_10_07 (j := 1) rfl rfl)
theorem dX11_nets_162 : decode cX11_nets 162 = .ok (.lneg, 1) := dk117 (rd_c chX11_nets_10_07 (j := 2) rfl rfl)
theorem dX11_nets_163 : decode cX11_nets 163 = .ok (.goto 10, 3) := dk167 (rd_c chX11_nets_10_07 (j := 3) rfl rfl) (rd_c chX11_nets_10_07 (j := 4) rfl rfl) (rd_c chX11_nets_10_07 (j := 5) rfl rfl) rfl
theorem dX11_nets_166 : decode cX11_nets 166 = .ok (.aload_n 0, 1) := dk42 (rd_c chX11_nets_10_07 (j := 6) rfl rfl)
theorem dX11_nets_167 : decode cX11_nets 167 = .ok (.getfield 144, 3) := dk180 (rd_c chX11_nets_10_07 (j := 7) rfl rfl) (rd_c chX11_nets_10_07 (j := 8) rfl rfl) (rd_c chX11_nets_10_07 (j := 9) rfl rfl) rfl
theorem dX11_nets_170 : decode cX11_nets 170 = .ok (.iload 4, 2) := dk21 (rd_c chX11_nets_10_07 (j := 10) rfl rfl) (rd_c chX11_nets_10_07 (j := 11) rfl rfl)
theorem dX11_nets_172 : decode cX11_nets 172 = .ok (.laload, 1) := dk47 (rd_c chX11_nets_10_07 (j := 12) rfl rfl)
theorem dX11_nets_173 : decode cX11_nets 173 = .ok (.lstore 5, 2) := dk55 (rd_c chX11_nets_10_07 (j := 13) rfl rfl) (rd_c chX11_nets_10_07 (j := 14) rfl rfl)
theorem dX11_nets_175 : decode cX11_nets 175 = .ok (.aload_n 0, 1) := dk42 (rd_c chX11_nets_10_07 (j := 15) rfl rfl)
theorem chX11_nets_11_07 : ((cX11_nets.data.toList.drop 176).take 16).map UInt8.toNat = [29, 21, 4, 22, 5, 27, 182, 1, 83, 42, 180, 0, 144, 29, 92, 47] := by decide +kernel
theorem dX11_nets_176 : decode cX11_nets 176 = .ok (.iload_n 3, 1) := dk29 (rd_c chX11_nets_11_07 (j := 0) rfl rfl)
theorem dX11_nets_177 : decode cX11_nets 177 = .ok (.iload 4, 2) := dk21 (rd_c chX11_nets_11_07 (j := 1) rfl rfl) (rd_c chX11_nets_11_07 (j := 2) rfl rfl)
theorem dX11_nets_179 : decode cX11_nets 179 = .ok (.lload 5, 2) := dk22 (rd_c chX11_nets_11_07 (j := 3) rfl rfl) (rd_c chX11_nets_11_07 (j := 4) rfl rfl)
theorem dX11_nets_181 : decode cX11_nets 181 = .ok (.iload_n 1, 1) := dk27 (rd_c chX11_nets_11_07 (j := 5) rfl rfl)
theorem dX11_nets_182 : decode cX11_nets 182 = .ok (.invokevirtual 339, 3) := dk182 (rd_c chX11_nets_11_07 (j := 6) rfl rfl) (rd_c chX11_nets_11_07 (j := 7) rfl rfl) (rd_c chX11_nets_11_07 (j := 8) rfl rfl) rfl
theorem dX11_nets_185 : decode cX11_nets 185 = .ok (.aload_n 0, 1) := dk42 (rd_c chX11_nets_11_07 (j := 9) rfl rfl)
theorem dX11_nets_186 : decode cX11_nets 186 = .ok (.getfield 144, 3) := dk180 (rd_c chX11_nets_11_07 (j := 10) rfl rfl) (rd_c chX11_nets_11_07 (j := 11) rfl rfl) (rd_c chX11_nets_11_07 (j := 12) rfl rfl) rfl
theorem dX11_nets_189 : decode cX11_nets 189 = .ok (.iload_n 3, 1) := dk29 (rd_c chX11_nets_11_07 (j := 13) rfl rfl)
theorem dX11_nets_190 : decode cX11_nets 190 = .ok (.dup2, 1) := dk92 (rd_c chX11_nets_11_07 (j := 14) rfl rfl)
theorem dX11_nets_191 : decode cX11_nets 191 = .ok (.laload, 1) := dk47 (rd_c chX11_nets_11_07 (j := 15) rfl rfl)
theorem chX11_nets_12_07 : ((cX11_nets.data.toList.drop 192).take 16).map UInt8.toNat = [22, 5, 97, 80, 42, 180, 0, 144, 21, 4, 92, 47, 22, 5, 101, 80] := by decide +kernel
theorem dX11_nets_192 : decode cX11_nets 192 = .ok (.lload 5, 2) := dk22 (rd_c chX11_nets_12_07 (j := 0) rfl rfl) (rd_c chX11_nets_12_07 (j := 1) rfl rfl)
theorem dX11_nets_194 : decode cX11_nets 194 = .ok (.ladd, 1) := dk97 (rd_c chX11_nets_12_07 (j := 2) rfl rfl)
theorem dX11_nets_195 : decode cX11_nets 195 = .ok (.lastore, 1) := dk80 (rd_c chX11_nets_12_07 (j := 3) rfl rfl)
theorem dX11_nets_196 : decode cX11_nets 196 = .ok (.aload_n 0, 1) := dk42 (rd_c chX11_nets_12_07 (j := 4) rfl rfl)
theorem dX11_nets_197 : decode cX11_nets 197 = .ok (.getfield 144, 3) := dk180 (rd_c chX11_nets_12_07 (j := 5) rfl rfl) (rd_c chX11_nets_12_07 (j := 6) rfl rfl) (rd_c chX11_nets_12_07 (j := 7) rfl rfl) rfl
theorem dX11_nets_200 : decode cX11_nets 200 = .ok (.iload 4, 2) := dk21 (rd_c chX11_nets_12_07 (j := 8) rfl rfl) (rd_c chX11_nets_12_07 (j := 9) rfl rfl)
theorem dX11_nets_202 : decode cX11_nets 202 = .ok (.dup2, 1) := dk92 (rd_c chX11_nets_12_07 (j := 10) rfl rfl)
theorem dX11_nets_203 : decode cX11_nets 203 = .ok (.laload, 1) := dk47 (rd_c chX11_nets_12_07 (j := 11) rfl rfl)
theorem dX11_nets_204 : decode cX11_nets 204 = .ok (.lload 5, 2) := dk22 (rd_c chX11_nets_12_07 (j := 12) rfl rfl) (rd_c chX11_nets_12_07 (j := 13) rfl rfl)
theorem dX11_nets_206 : decode cX11_nets 206 = .ok (.lsub, 1) := dk101 (rd_c chX11_nets_12_07 (j := 14) rfl rfl)
theorem dX11_nets_207 : decode cX11_nets 207 = .ok (.lastore, 1) := dk80 (rd_c chX11_nets_12_07 (j := 15) rfl rfl)
theorem chX11_nets_13_07 : ((cX11_nets.data.toList.drop 208).take 16).map UInt8.toNat = [167, 255, 88, 3, 62, 29, 16, 12, 162, 0, 83, 42, 180, 0, 17, 29] := by decide +kernel
theorem dX11_nets_208 : decode cX11_nets 208 = .ok (.goto (-168), 3) := dk167 (rd_c chX11_nets_13_07 (j := 0) rfl rfl) (rd_c chX11_nets_13_07 (j := 1) rfl rfl) (rd_c chX11_nets_13_07 (j := 2) rfl rfl) rfl
theorem dX11_nets_211 : decode cX11_nets 211 = .ok (.iconst 0, 1) := dk3 (rd_c chX11_nets_13_07 (j := 3) rfl rfl)
theorem dX11_nets_212 : decode cX11_nets 212 = .ok (.istore_n 3, 1) := dk62 (rd_c chX11_nets_13_07 (j := 4) rfl rfl)
theorem dX11_nets_213 : decode cX11_nets 213 = .ok (.iload_n 3, 1) := dk29 (rd_c chX11_nets_13_07 (j := 5) rfl rfl)
theorem dX11_nets_214 : decode cX11_nets 214 = .ok (.bipush 12, 2) := dk16 (rd_c chX11_nets_13_07 (j := 6) rfl rfl) (rd_c chX11_nets_13_07 (j := 7) rfl rfl) rfl
theorem dX11_nets_216 : decode cX11_nets 216 = .ok (.if_icmp .ge 83, 3) := dk162 (rd_c chX11_nets_13_07 (j := 8) rfl rfl) (rd_c chX11_nets_13_07 (j := 9) rfl rfl) (rd_c chX11_nets_13_07 (j := 10) rfl rfl) rfl
theorem dX11_nets_219 : decode cX11_nets 219 = .ok (.aload_n 0, 1) := dk42 (rd_c chX11_nets_13_07 (j := 11) rfl rfl)
theorem dX11_nets_220 : decode cX11_nets 220 = .ok (.getfield 17, 3) := dk180 (rd_c chX11_nets_13_07 (j := 12) rfl rfl) (rd_c chX11_nets_13_07 (j := 13) rfl rfl) (rd_c chX11_nets_13_07 (j := 14) rfl rfl) rfl
theorem dX11_nets_223 : decode cX11_nets 223 = .ok (.iload_n 3, 1) := dk29 (rd_c chX11_nets_13_07 (j := 15) rfl rfl)
theorem chX11_nets_14_07 : ((cX11_nets.data.toList.drop 224).take 16).map UInt8.toNat = [46, 27, 160, 0, 31, 42, 180, 0, 144, 29, 47, 9, 148, 158, 0, 20] := by decide +kernel
theorem dX11_nets_224 : decode cX11_nets 224 = .ok (.iaload, 1) := dk46 (rd_c chX11_nets_14_07 (j := 0) rfl rfl)
theorem dX11_nets_225 : decode cX11_nets 225 = .ok (.iload_n 1, 1) := dk27 (rd_c chX11_nets_14_07 (j := 1) rfl rfl)
theorem dX11_nets_226 : decode cX11_nets 226 = .ok (.if_icmp .ne 31, 3) := dk160 (rd_c chX11_nets_14_07 (j := 2) rfl rfl) (rd_c chX11_nets_14_07 (j := 3) rfl rfl) (rd_c chX11_nets_14_07 (j := 4) rfl rfl) rfl
theorem dX11_nets_229 : decode cX11_nets 229 = .ok (.aload_n 0, 1) := dk42 (rd_c chX11_nets_14_07 (j := 5) rfl rfl)
theorem dX11_nets_230 : decode cX11_nets 230 = .ok (.getfield 144, 3) := dk180 (rd_c chX11_nets_14_07 (j := 6) rfl rfl) (rd_c chX11_nets_14_07 (j := 7) rfl rfl) (rd_c chX11_nets_14_07 (j := 8) rfl rfl) rfl
theorem dX11_nets_233 : decode cX11_nets 233 = .ok (.iload_n 3, 1) := dk29 (rd_c chX11_nets_14_07 (j := 9) rfl rfl)
theorem dX11_nets_234 : decode cX11_nets 234 = .ok (.laload, 1) := dk47 (rd_c chX11_nets_14_07 (j := 10) rfl rfl)
theorem dX11_nets_235 : decode cX11_nets 235 = .ok (.lconst 0, 1) := dk9 (rd_c chX11_nets_14_07 (j := 11) rfl rfl)
theorem dX11_nets_236 : decode cX11_nets 236 = .ok (.lcmp, 1) := dk148 (rd_c chX11_nets_14_07 (j := 12) rfl rfl)
theorem dX11_nets_237 : decode cX11_nets 237 = .ok (.ifCond .le 20, 3) := dk158 (rd_c chX11_nets_14_07 (j := 13) rfl rfl) (rd_c chX11_nets_14_07 (j := 14) rfl rfl) (rd_c chX11_nets_14_07 (j := 15) rfl rfl) rfl
theorem chX11_nets_15_07 : ((cX11_nets.data.toList.drop 240).take 16).map UInt8.toNat = [42, 16, 12, 29, 42, 180, 0, 144, 29, 47, 27, 182, 1, 83, 167, 0] := by decide +kernel
theorem dX11_nets_240 : decode cX11_nets 240 = .ok (.aload_n 0, 1) := dk42 (rd_c chX11_nets_15_07 (j := 0) rfl rfl)
theorem dX11_nets_241 : decode cX11_nets 241 = .ok (.bipush 12, 2) := dk16 (rd_c chX11_nets_15_07 (j := 1) rfl rfl) (rd_c chX11_nets_15_07 (j := 2) rfl rfl) rfl
theorem dX11_nets_243 : decode cX11_nets 243 = .ok (.iload_n 3, 1) := dk29 (rd_c chX11_nets_15_07 (j := 3) rfl rfl)
theorem dX11_nets_244 : decode cX11_nets 244 = .ok (.aload_n 0, 1) := dk42 (rd_c chX11_nets_15_07 (j := 4) rfl rfl)
theorem dX11_nets_245 : decode cX11_nets 245 = .ok (.getfield 144, 3) := dk180 (rd_c chX11_nets_15_07 (j := 5) rfl rfl) (rd_c chX11_nets_15_07 (j := 6) rfl rfl) (rd_c chX11_nets_15_07 (j := 7) rfl rfl) rfl
theorem dX11_nets_248 : decode cX11_nets 248 = .ok (.iload_n 3, 1) := dk29 (rd_c chX11_nets_15_07 (j := 8) rfl rfl)
theorem dX11_nets_249 : decode cX11_nets 249 = .ok (.laload, 1) := dk47 (rd_c chX11_nets_15_07 (j := 9) rfl rfl)
theorem dX11_nets_250 : decode cX11_nets 250 = .ok (.iload_n 1, 1) := dk27 (rd_c chX11_nets_15_07 (j := 10) rfl rfl)
theorem dX11_nets_251 : decode cX11_nets 251 = .ok (.invokevirtual 339, 3) := dk182 (rd_c chX11_nets_15_07 (j := 11) rfl rfl) (rd_c chX11_nets_15_07 (j := 12) rfl rfl) (rd_c chX11_nets_15_07 (j := 13) rfl rfl) rfl
theorem chX11_nets_16_07 : ((cX11_nets.data.toList.drop 256).take 16).map UInt8.toNat = [39, 42, 180, 0, 17, 29, 46, 27, 160, 0, 29, 42, 180, 0, 144, 29] := by decide +kernel
theorem dX11_nets_254 : decode cX11_nets 254 = .ok (.goto 39, 3) := dk167 (rd_c chX11_nets_15_07 (j := 14) rfl rfl) (rd_c chX11_nets_15_07 (j := 15) rfl rfl) (rd_c chX11_nets_16_07 (j := 0) rfl rfl) rfl
theorem dX11_nets_257 : decode cX11_nets 257 = .ok (.aload_n 0, 1) := dk42 (rd_c chX11_nets_16_07 (j := 1) rfl rfl)
theorem dX11_nets_258 : decode cX11_nets 258 = .ok (.getfield 17, 3) := dk180 (rd_c chX11_nets_16_07 (j := 2) rfl rfl) (rd_c chX11_nets_16_07 (j := 3) rfl rfl) (rd_c chX11_nets_16_07 (j := 4) rfl rfl) rfl
theorem dX11_nets_261 : decode cX11_nets 261 = .ok (.iload_n 3, 1) := dk29 (rd_c chX11_nets_16_07 (j := 5) rfl rfl)
theorem dX11_nets_262 : decode cX11_nets 262 = .ok (.iaload, 1) := dk46 (rd_c chX11_nets_16_07 (j := 6) rfl rfl)
theorem dX11_nets_263 : decode cX11_nets 263 = .ok (.iload_n 1, 1) := dk27 (rd_c chX11_nets_16_07 (j := 7) rfl rfl)
theorem dX11_nets_264 : decode cX11_nets 264 = .ok (.if_icmp .ne 29, 3) := dk160 (rd_c chX11_nets_16_07 (j := 8) rfl rfl) (rd_c chX11_nets_16_07 (j := 9) rfl rfl) (rd_c chX11_nets_16_07 (j := 10) rfl rfl) rfl
theorem dX11_nets_267 : decode cX11_nets 267 = .ok (.aload_n 0, 1) := dk42 (rd_c chX11_nets_16_07 (j := 11) rfl rfl)
theorem dX11_nets_268 : decode cX11_nets 268 = .ok (.getfield 144, 3) := dk180 (rd_c chX11_nets_16_07 (j := 12) rfl rfl) (rd_c chX11_nets_16_07 (j := 13) rfl rfl) (rd_c chX11_nets_16_07 (j := 14) rfl rfl) rfl
theorem dX11_nets_271 : decode cX11_nets 271 = .ok (.iload_n 3, 1) := dk29 (rd_c chX11_nets_16_07 (j := 15) rfl rfl)
theorem chX11_nets_17_07 : ((cX11_nets.data.toList.drop 272).take 16).map UInt8.toNat = [47, 9, 148, 156, 0, 18, 42, 29, 16, 12, 42, 180, 0, 144, 29, 47] := by decide +kernel
theorem dX11_nets_272 : decode cX11_nets 272 = .ok (.laload, 1) := dk47 (rd_c chX11_nets_17_07 (j := 0) rfl rfl)
theorem dX11_nets_273 : decode cX11_nets 273 = .ok (.lconst 0, 1) := dk9 (rd_c chX11_nets_17_07 (j := 1) rfl rfl)
theorem dX11_nets_274 : decode cX11_nets 274 = .ok (.lcmp, 1) := dk148 (rd_c chX11_nets_17_07 (j := 2) rfl rfl)
theorem dX11_nets_275 : decode cX11_nets 275 = .ok (.ifCond .ge 18, 3) := dk156 (rd_c chX11_nets_17_07 (j := 3) rfl rfl) (rd_c chX11_nets_17_07 (j := 4) rfl rfl) (rd_c chX11_nets_17_07 (j := 5) rfl rfl) rfl
theorem dX11_nets_278 : decode cX11_nets 278 = .ok (.aload_n 0, 1) := dk42 (rd_c chX11_nets_17_07 (j := 6) rfl rfl)
theorem dX11_nets_279 : decode cX11_nets 279 = .ok (.iload_n 3, 1) := dk29 (rd_c chX11_nets_17_07 (j := 7) rfl rfl)
theorem dX11_nets_280 : decode cX11_nets 280 = .ok (.bipush 12, 2) := dk16 (rd_c chX11_nets_17_07 (j := 8) rfl rfl) (rd_c chX11_nets_17_07 (j := 9) rfl rfl) rfl
theorem dX11_nets_282 : decode cX11_nets 282 = .ok (.aload_n 0, 1) := dk42 (rd_c chX11_nets_17_07 (j := 10) rfl rfl)
theorem dX11_nets_283 : decode cX11_nets 283 = .ok (.getfield 144, 3) := dk180 (rd_c chX11_nets_17_07 (j := 11) rfl rfl) (rd_c chX11_nets_17_07 (j := 12) rfl rfl) (rd_c chX11_nets_17_07 (j := 13) rfl rfl) rfl
theorem dX11_nets_286 : decode cX11_nets 286 = .ok (.iload_n 3, 1) := dk29 (rd_c chX11_nets_17_07 (j := 14) rfl rfl)
theorem dX11_nets_287 : decode cX11_nets 287 = .ok (.laload, 1) := dk47 (rd_c chX11_nets_17_07 (j := 15) rfl rfl)
theorem chX11_nets_18_07 : ((cX11_nets.data.toList.drop 288).take 16).map UInt8.toNat = [117, 27, 182, 1, 83, 132, 3, 1, 167, 255, 173, 132, 1, 1, 167, 254] := by decide +kernel
theorem dX11_nets_288 : decode cX11_nets 288 = .ok (.lneg, 1) := dk117 (rd_c chX11_nets_18_07 (j := 0) rfl rfl)
theorem dX11_nets_289 : decode cX11_nets 289 = .ok (.iload_n 1, 1) := dk27 (rd_c chX11_nets_18_07 (j := 1) rfl rfl)
theorem dX11_nets_290 : decode cX11_nets 290 = .ok (.invokevirtual 339, 3) := dk182 (rd_c chX11_nets_18_07 (j := 2) rfl rfl) (rd_c chX11_nets_18_07 (j := 3) rfl rfl) (rd_c chX11_nets_18_07 (j := 4) rfl rfl) rfl
theorem dX11_nets_293 : decode cX11_nets 293 = .ok (.iinc 3 1, 3) := dk132 (rd_c chX11_nets_18_07 (j := 5) rfl rfl) (rd_c chX11_nets_18_07 (j := 6) rfl rfl) (rd_c chX11_nets_18_07 (j := 7) rfl rfl) rfl
theorem dX11_nets_296 : decode cX11_nets 296 = .ok (.goto (-83), 3) := dk167 (rd_c chX11_nets_18_07 (j := 8) rfl rfl) (rd_c chX11_nets_18_07 (j := 9) rfl rfl) (rd_c chX11_nets_18_07 (j := 10) rfl rfl) rfl
theorem dX11_nets_299 : decode cX11_nets 299 = .ok (.iinc 1 1, 3) := dk132 (rd_c chX11_nets_18_07 (j := 11) rfl rfl) (rd_c chX11_nets_18_07 (j := 12) rfl rfl) (rd_c chX11_nets_18_07 (j := 13) rfl rfl) rfl
theorem chX11_nets_19_07 : ((cX11_nets.data.toList.drop 304).take 16).map UInt8.toNat = [243, 177] := by decide +kernel
theorem dX11_nets_302 : decode cX11_nets 302 = .ok (.goto (-269), 3) := dk167 (rd_c chX11_nets_18_07 (j := 14) rfl rfl) (rd_c chX11_nets_18_07 (j := 15) rfl rfl) (rd_c chX11_nets_19_07 (j := 0) rfl rfl) rfl
theorem dX11_nets_305 : decode cX11_nets 305 = .ok (.return_, 1) := dk177 (rd_c chX11_nets_19_07 (j := 1) rfl rfl)
set_option maxRecDepth 20000 in
theorem ggX11_settled_X11_in : GoodIn wsX11_settled wsX11_in := goodIn_sub (show ∀ w ∈ wsX11_in, w ∈ wsX11_settled from (List.forall_mem_cons.mpr ⟨List.mem_cons_of_mem _ (List.mem_append_left _ (List.mem_of_getElem? (i := 7) rfl)), (fun _ h => absurd h List.not_mem_nil)⟩)) (by decide +kernel)
set_option maxRecDepth 20000 in
theorem gX11_settled_X11_in : GoodIn wsX11_settled (va_wsS RX11 170 yX11_in wsX11_in) := goodIn_app (goodIn_sub (List.forall_mem_cons.mpr ⟨List.mem_cons_of_mem _ (List.mem_append_left _ (List.mem_of_getElem? (i := 4) rfl)), (List.forall_mem_cons.mpr ⟨List.mem_cons_of_mem _ (List.mem_append_left _ (List.mem_of_getElem? (i := 5) rfl)), (List.forall_mem_cons.mpr ⟨List.mem_cons_of_mem _ (List.mem_append_left _ (List.mem_of_getElem? (i := 6) rfl)), (fun _ h => absurd h List.not_mem_nil)⟩)⟩)⟩) (by decide +kernel)) ggX11_settled_X11_in
theorem chX11_settled_0_07 : ((cX11_settled.data.toList.drop 0).take 16).map UInt8.toNat = [42, 180, 1, 69, 153, 0, 27, 27, 3, 42, 180, 1, 58, 4, 100, 184] := by decide +kernel
theorem dX11_settled_0 : decode cX11_settled 0 = .ok (.aload_n 0, 1) := dk42 (rd_c chX11_settled_0_07 (j := 0) rfl rfl)
theorem dX11_settled_1 : decode cX11_settled 1 = .ok (.getfield 325, 3) := dk180 (rd_c chX11_settled_0_07 (j := 1) rfl rfl) (rd_c chX11_settled_0_07 (j := 2) rfl rfl) (rd_c chX11_settled_0_07 (j := 3) rfl rfl) rfl
theorem dX11_settled_4 : decode cX11_settled 4 = .ok (.ifCond .eq 27, 3) := dk153 (rd_c chX11_settled_0_07 (j := 4) rfl rfl) (rd_c chX11_settled_0_07 (j := 5) rfl rfl) (rd_c chX11_settled_0_07 (j := 6) rfl rfl) rfl
theorem dX11_settled_7 : decode cX11_settled 7 = .ok (.iload_n 1, 1) := dk27 (rd_c chX11_settled_0_07 (j := 7) rfl rfl)
theorem dX11_settled_8 : decode cX11_settled 8 = .ok (.iconst 0, 1) := dk3 (rd_c chX11_settled_0_07 (j := 8) rfl rfl)
theorem dX11_settled_9 : decode cX11_settled 9 = .ok (.aload_n 0, 1) := dk42 (rd_c chX11_settled_0_07 (j := 9) rfl rfl)
theorem dX11_settled_10 : decode cX11_settled 10 = .ok (.getfield 314, 3) := dk180 (rd_c chX11_settled_0_07 (j := 10) rfl rfl) (rd_c chX11_settled_0_07 (j := 11) rfl rfl) (rd_c chX11_settled_0_07 (j := 12) rfl rfl) rfl
theorem dX11_settled_13 : decode cX11_settled 13 = .ok (.iconst 1, 1) := dk4 (rd_c chX11_settled_0_07 (j := 13) rfl rfl)
theorem dX11_settled_14 : decode cX11_settled 14 = .ok (.isub, 1) := dk100 (rd_c chX11_settled_0_07 (j := 14) rfl rfl)
theorem chX11_settled_1_07 : ((cX11_settled.data.toList.drop 16).take 16).map UInt8.toNat = [0, 170, 153, 0, 13, 42, 180, 0, 135, 27, 46, 2, 160, 0, 5, 2] := by decide +kernel
theorem dX11_settled_15 : decode cX11_settled 15 = .ok (.invokestatic 170, 3) := dk184 (rd_c chX11_settled_0_07 (j := 15) rfl rfl) (rd_c chX11_settled_1_07 (j := 0) rfl rfl) (rd_c chX11_settled_1_07 (j := 1) rfl rfl) rfl
theorem dX11_settled_18 : decode cX11_settled 18 = .ok (.ifCond .eq 13, 3) := dk153 (rd_c chX11_settled_1_07 (j := 2) rfl rfl) (rd_c chX11_settled_1_07 (j := 3) rfl rfl) (rd_c chX11_settled_1_07 (j := 4) rfl rfl) rfl
theorem dX11_settled_21 : decode cX11_settled 21 = .ok (.aload_n 0, 1) := dk42 (rd_c chX11_settled_1_07 (j := 5) rfl rfl)
theorem dX11_settled_22 : decode cX11_settled 22 = .ok (.getfield 135, 3) := dk180 (rd_c chX11_settled_1_07 (j := 6) rfl rfl) (rd_c chX11_settled_1_07 (j := 7) rfl rfl) (rd_c chX11_settled_1_07 (j := 8) rfl rfl) rfl
theorem dX11_settled_25 : decode cX11_settled 25 = .ok (.iload_n 1, 1) := dk27 (rd_c chX11_settled_1_07 (j := 9) rfl rfl)
theorem dX11_settled_26 : decode cX11_settled 26 = .ok (.iaload, 1) := dk46 (rd_c chX11_settled_1_07 (j := 10) rfl rfl)
theorem dX11_settled_27 : decode cX11_settled 27 = .ok (.iconst (-1), 1) := dk2 (rd_c chX11_settled_1_07 (j := 11) rfl rfl)
theorem dX11_settled_28 : decode cX11_settled 28 = .ok (.if_icmp .ne 5, 3) := dk160 (rd_c chX11_settled_1_07 (j := 12) rfl rfl) (rd_c chX11_settled_1_07 (j := 13) rfl rfl) (rd_c chX11_settled_1_07 (j := 14) rfl rfl) rfl
theorem dX11_settled_31 : decode cX11_settled 31 = .ok (.iconst (-1), 1) := dk2 (rd_c chX11_settled_1_07 (j := 15) rfl rfl)
theorem chX11_settled_2_07 : ((cX11_settled.data.toList.drop 32).take 16).map UInt8.toNat = [172, 28, 154, 0, 12, 42, 180, 0, 135, 27, 46, 167, 0, 19, 28, 4] := by decide +kernel
theorem dX11_settled_32 : decode cX11_settled 32 = .ok (.ireturn, 1) := dk172 (rd_c chX11_settled_2_07 (j := 0) rfl rfl)
theorem dX11_settled_33 : decode cX11_settled 33 = .ok (.iload_n 2, 1) := dk28 (rd_c chX11_settled_2_07 (j := 1) rfl rfl)
theorem dX11_settled_34 : decode cX11_settled 34 = .ok (.ifCond .ne 12, 3) := dk154 (rd_c chX11_settled_2_07 (j := 2) rfl rfl) (rd_c chX11_settled_2_07 (j := 3) rfl rfl) (rd_c chX11_settled_2_07 (j := 4) rfl rfl) rfl
theorem dX11_settled_37 : decode cX11_settled 37 = .ok (.aload_n 0, 1) := dk42 (rd_c chX11_settled_2_07 (j := 5) rfl rfl)
theorem dX11_settled_38 : decode cX11_settled 38 = .ok (.getfield 135, 3) := dk180 (rd_c chX11_settled_2_07 (j := 6) rfl rfl) (rd_c chX11_settled_2_07 (j := 7) rfl rfl) (rd_c chX11_settled_2_07 (j := 8) rfl rfl) rfl
theorem dX11_settled_41 : decode cX11_settled 41 = .ok (.iload_n 1, 1) := dk27 (rd_c chX11_settled_2_07 (j := 9) rfl rfl)
theorem dX11_settled_42 : decode cX11_settled 42 = .ok (.iaload, 1) := dk46 (rd_c chX11_settled_2_07 (j := 10) rfl rfl)
theorem dX11_settled_43 : decode cX11_settled 43 = .ok (.goto 19, 3) := dk167 (rd_c chX11_settled_2_07 (j := 11) rfl rfl) (rd_c chX11_settled_2_07 (j := 12) rfl rfl) (rd_c chX11_settled_2_07 (j := 13) rfl rfl) rfl
theorem dX11_settled_46 : decode cX11_settled 46 = .ok (.iload_n 2, 1) := dk28 (rd_c chX11_settled_2_07 (j := 14) rfl rfl)
theorem dX11_settled_47 : decode cX11_settled 47 = .ok (.iconst 1, 1) := dk4 (rd_c chX11_settled_2_07 (j := 15) rfl rfl)
theorem chX11_settled_3_07 : ((cX11_settled.data.toList.drop 48).take 16).map UInt8.toNat = [160, 0, 13, 42, 180, 0, 138, 27, 47, 136, 167, 0, 4, 2, 172] := by decide +kernel
theorem dX11_settled_48 : decode cX11_settled 48 = .ok (.if_icmp .ne 13, 3) := dk160 (rd_c chX11_settled_3_07 (j := 0) rfl rfl) (rd_c chX11_settled_3_07 (j := 1) rfl rfl) (rd_c chX11_settled_3_07 (j := 2) rfl rfl) rfl
theorem dX11_settled_51 : decode cX11_settled 51 = .ok (.aload_n 0, 1) := dk42 (rd_c chX11_settled_3_07 (j := 3) rfl rfl)
theorem dX11_settled_52 : decode cX11_settled 52 = .ok (.getfield 138, 3) := dk180 (rd_c chX11_settled_3_07 (j := 4) rfl rfl) (rd_c chX11_settled_3_07 (j := 5) rfl rfl) (rd_c chX11_settled_3_07 (j := 6) rfl rfl) rfl
theorem dX11_settled_55 : decode cX11_settled 55 = .ok (.iload_n 1, 1) := dk27 (rd_c chX11_settled_3_07 (j := 7) rfl rfl)
theorem dX11_settled_56 : decode cX11_settled 56 = .ok (.laload, 1) := dk47 (rd_c chX11_settled_3_07 (j := 8) rfl rfl)
theorem dX11_settled_57 : decode cX11_settled 57 = .ok (.l2i, 1) := dk136 (rd_c chX11_settled_3_07 (j := 9) rfl rfl)
theorem dX11_settled_58 : decode cX11_settled 58 = .ok (.goto 4, 3) := dk167 (rd_c chX11_settled_3_07 (j := 10) rfl rfl) (rd_c chX11_settled_3_07 (j := 11) rfl rfl) (rd_c chX11_settled_3_07 (j := 12) rfl rfl) rfl
theorem dX11_settled_61 : decode cX11_settled 61 = .ok (.iconst (-1), 1) := dk2 (rd_c chX11_settled_3_07 (j := 13) rfl rfl)
theorem dX11_settled_62 : decode cX11_settled 62 = .ok (.ireturn, 1) := dk172 (rd_c chX11_settled_3_07 (j := 14) rfl rfl)
set_option maxRecDepth 20000 in
theorem ggX11_due_X11_isTown : GoodIn wsX11_due wsX11_isTown := goodIn_sub (show ∀ w ∈ wsX11_isTown, w ∈ wsX11_due from (List.forall_mem_cons.mpr ⟨List.mem_cons_of_mem _ (List.mem_append_left _ (List.mem_of_getElem? (i := 5) rfl)), (fun _ h => absurd h List.not_mem_nil)⟩)) (by decide +kernel)
set_option maxRecDepth 20000 in
theorem gX11_due_X11_isTown : GoodIn wsX11_due (va_wsS RX11 174 yX11_isTown wsX11_isTown) := goodIn_app (goodIn_sub (List.forall_mem_cons.mpr ⟨List.mem_cons_of_mem _ (List.mem_append_left _ (List.mem_of_getElem? (i := 2) rfl)), (List.forall_mem_cons.mpr ⟨List.mem_cons_of_mem _ (List.mem_append_left _ (List.mem_of_getElem? (i := 3) rfl)), (List.forall_mem_cons.mpr ⟨List.mem_cons_of_mem _ (List.mem_append_left _ (List.mem_of_getElem? (i := 4) rfl)), (fun _ h => absurd h List.not_mem_nil)⟩)⟩)⟩) (by decide +kernel)) ggX11_due_X11_isTown
theorem chX11_due_0_07 : ((cX11_due.data.toList.drop 0).take 16).map UInt8.toNat = [42, 180, 1, 69, 153, 0, 19, 27, 184, 0, 174, 153, 0, 12, 42, 180] := by decide +kernel
theorem dX11_due_0 : decode cX11_due 0 = .ok (.aload_n 0, 1) := dk42 (rd_c chX11_due_0_07 (j := 0) rfl rfl)
theorem dX11_due_1 : decode cX11_due 1 = .ok (.getfield 325, 3) := dk180 (rd_c chX11_due_0_07 (j := 1) rfl rfl) (rd_c chX11_due_0_07 (j := 2) rfl rfl) (rd_c chX11_due_0_07 (j := 3) rfl rfl) rfl
theorem dX11_due_4 : decode cX11_due 4 = .ok (.ifCond .eq 19, 3) := dk153 (rd_c chX11_due_0_07 (j := 4) rfl rfl) (rd_c chX11_due_0_07 (j := 5) rfl rfl) (rd_c chX11_due_0_07 (j := 6) rfl rfl) rfl
theorem dX11_due_7 : decode cX11_due 7 = .ok (.iload_n 1, 1) := dk27 (rd_c chX11_due_0_07 (j := 7) rfl rfl)
theorem dX11_due_8 : decode cX11_due 8 = .ok (.invokestatic 174, 3) := dk184 (rd_c chX11_due_0_07 (j := 8) rfl rfl) (rd_c chX11_due_0_07 (j := 9) rfl rfl) (rd_c chX11_due_0_07 (j := 10) rfl rfl) rfl
theorem dX11_due_11 : decode cX11_due 11 = .ok (.ifCond .eq 12, 3) := dk153 (rd_c chX11_due_0_07 (j := 11) rfl rfl) (rd_c chX11_due_0_07 (j := 12) rfl rfl) (rd_c chX11_due_0_07 (j := 13) rfl rfl) rfl
theorem dX11_due_14 : decode cX11_due 14 = .ok (.aload_n 0, 1) := dk42 (rd_c chX11_due_0_07 (j := 14) rfl rfl)
theorem chX11_due_1_07 : ((cX11_due.data.toList.drop 16).take 16).map UInt8.toNat = [0, 141, 27, 47, 167, 0, 4, 9, 173] := by decide +kernel
theorem dX11_due_15 : decode cX11_due 15 = .ok (.getfield 141, 3) := dk180 (rd_c chX11_due_0_07 (j := 15) rfl rfl) (rd_c chX11_due_1_07 (j := 0) rfl rfl) (rd_c chX11_due_1_07 (j := 1) rfl rfl) rfl
theorem dX11_due_18 : decode cX11_due 18 = .ok (.iload_n 1, 1) := dk27 (rd_c chX11_due_1_07 (j := 2) rfl rfl)
theorem dX11_due_19 : decode cX11_due 19 = .ok (.laload, 1) := dk47 (rd_c chX11_due_1_07 (j := 3) rfl rfl)
theorem dX11_due_20 : decode cX11_due 20 = .ok (.goto 4, 3) := dk167 (rd_c chX11_due_1_07 (j := 4) rfl rfl) (rd_c chX11_due_1_07 (j := 5) rfl rfl) (rd_c chX11_due_1_07 (j := 6) rfl rfl) rfl
theorem dX11_due_23 : decode cX11_due 23 = .ok (.lconst 0, 1) := dk9 (rd_c chX11_due_1_07 (j := 7) rfl rfl)
theorem dX11_due_24 : decode cX11_due 24 = .ok (.lreturn, 1) := dk173 (rd_c chX11_due_1_07 (j := 8) rfl rfl)
set_option maxRecDepth 20000 in
theorem ggX11_netted_X11_in : GoodIn wsX11_netted wsX11_in := goodIn_sub (show ∀ w ∈ wsX11_in, w ∈ wsX11_netted from (List.forall_mem_cons.mpr ⟨List.mem_cons_of_mem _ (List.mem_append_left _ (List.mem_of_getElem? (i := 9) rfl)), (fun _ h => absurd h List.not_mem_nil)⟩)) (by decide +kernel)
set_option maxRecDepth 20000 in
theorem gX11_netted_X11_in : GoodIn wsX11_netted (va_wsS RX11 170 yX11_in wsX11_in) := goodIn_app (goodIn_sub (List.forall_mem_cons.mpr ⟨List.mem_cons_of_mem _ (List.mem_append_left _ (List.mem_of_getElem? (i := 6) rfl)), (List.forall_mem_cons.mpr ⟨List.mem_cons_of_mem _ (List.mem_append_left _ (List.mem_of_getElem? (i := 7) rfl)), (List.forall_mem_cons.mpr ⟨List.mem_cons_of_mem _ (List.mem_append_left _ (List.mem_of_getElem? (i := 8) rfl)), (fun _ h => absurd h List.not_mem_nil)⟩)⟩)⟩) (by decide +kernel)) ggX11_netted_X11_in
theorem chX11_netted_0_07 : ((cX11_netted.data.toList.drop 0).take 16).map UInt8.toNat = [27, 3, 42, 180, 1, 80, 4, 100, 184, 0, 170, 154, 0, 7, 20, 1] := by decide +kernel
theorem dX11_netted_0 : decode cX11_netted 0 = .ok (.iload_n 1, 1) := dk27 (rd_c chX11_netted_0_07 (j := 0) rfl rfl)
theorem dX11_netted_1 : decode cX11_netted 1 = .ok (.iconst 0, 1) := dk3 (rd_c chX11_netted_0_07 (j := 1) rfl rfl)
theorem dX11_netted_2 : decode cX11_netted 2 = .ok (.aload_n 0, 1) := dk42 (rd_c chX11_netted_0_07 (j := 2) rfl rfl)
theorem dX11_netted_3 : decode cX11_netted 3 = .ok (.getfield 336, 3) := dk180 (rd_c chX11_netted_0_07 (j := 3) rfl rfl) (rd_c chX11_netted_0_07 (j := 4) rfl rfl) (rd_c chX11_netted_0_07 (j := 5) rfl rfl) rfl
theorem dX11_netted_6 : decode cX11_netted 6 = .ok (.iconst 1, 1) := dk4 (rd_c chX11_netted_0_07 (j := 6) rfl rfl)
theorem dX11_netted_7 : decode cX11_netted 7 = .ok (.isub, 1) := dk100 (rd_c chX11_netted_0_07 (j := 7) rfl rfl)
theorem dX11_netted_8 : decode cX11_netted 8 = .ok (.invokestatic 170, 3) := dk184 (rd_c chX11_netted_0_07 (j := 8) rfl rfl) (rd_c chX11_netted_0_07 (j := 9) rfl rfl) (rd_c chX11_netted_0_07 (j := 10) rfl rfl) rfl
theorem dX11_netted_11 : decode cX11_netted 11 = .ok (.ifCond .ne 7, 3) := dk154 (rd_c chX11_netted_0_07 (j := 11) rfl rfl) (rd_c chX11_netted_0_07 (j := 12) rfl rfl) (rd_c chX11_netted_0_07 (j := 13) rfl rfl) rfl
theorem chX11_netted_1_07 : ((cX11_netted.data.toList.drop 16).take 16).map UInt8.toNat = [87, 173, 28, 170, 0, 0, 0, 60, 0, 0, 0, 0, 0, 0, 0, 3] := by decide +kernel
theorem dX11_netted_14 : decode cX11_netted 14 = .ok (.ldc2_w 343, 3) := dk20 (rd_c chX11_netted_0_07 (j := 14) rfl rfl) (rd_c chX11_netted_0_07 (j := 15) rfl rfl) (rd_c chX11_netted_1_07 (j := 0) rfl rfl) rfl
theorem dX11_netted_17 : decode cX11_netted 17 = .ok (.lreturn, 1) := dk173 (rd_c chX11_netted_1_07 (j := 1) rfl rfl)
theorem dX11_netted_18 : decode cX11_netted 18 = .ok (.iload_n 2, 1) := dk28 (rd_c chX11_netted_1_07 (j := 2) rfl rfl)
theorem dX11_netted_19 : decode cX11_netted 19 = .ok (.tableswitch 60 0 3 #[29, 37, 45, 52], 29) := by decide +kernel
theorem chX11_netted_3_07 : ((cX11_netted.data.toList.drop 48).take 16).map UInt8.toNat = [42, 180, 0, 147, 27, 46, 133, 173, 42, 180, 0, 150, 27, 46, 133, 173] := by decide +kernel
theorem dX11_netted_48 : decode cX11_netted 48 = .ok (.aload_n 0, 1) := dk42 (rd_c chX11_netted_3_07 (j := 0) rfl rfl)
theorem dX11_netted_49 : decode cX11_netted 49 = .ok (.getfield 147, 3) := dk180 (rd_c chX11_netted_3_07 (j := 1) rfl rfl) (rd_c chX11_netted_3_07 (j := 2) rfl rfl) (rd_c chX11_netted_3_07 (j := 3) rfl rfl) rfl
theorem dX11_netted_52 : decode cX11_netted 52 = .ok (.iload_n 1, 1) := dk27 (rd_c chX11_netted_3_07 (j := 4) rfl rfl)
theorem dX11_netted_53 : decode cX11_netted 53 = .ok (.iaload, 1) := dk46 (rd_c chX11_netted_3_07 (j := 5) rfl rfl)
theorem dX11_netted_54 : decode cX11_netted 54 = .ok (.i2l, 1) := dk133 (rd_c chX11_netted_3_07 (j := 6) rfl rfl)
theorem dX11_netted_55 : decode cX11_netted 55 = .ok (.lreturn, 1) := dk173 (rd_c chX11_netted_3_07 (j := 7) rfl rfl)
theorem dX11_netted_56 : decode cX11_netted 56 = .ok (.aload_n 0, 1) := dk42 (rd_c chX11_netted_3_07 (j := 8) rfl rfl)
theorem dX11_netted_57 : decode cX11_netted 57 = .ok (.getfield 150, 3) := dk180 (rd_c chX11_netted_3_07 (j := 9) rfl rfl) (rd_c chX11_netted_3_07 (j := 10) rfl rfl) (rd_c chX11_netted_3_07 (j := 11) rfl rfl) rfl
theorem dX11_netted_60 : decode cX11_netted 60 = .ok (.iload_n 1, 1) := dk27 (rd_c chX11_netted_3_07 (j := 12) rfl rfl)
theorem dX11_netted_61 : decode cX11_netted 61 = .ok (.iaload, 1) := dk46 (rd_c chX11_netted_3_07 (j := 13) rfl rfl)
theorem dX11_netted_62 : decode cX11_netted 62 = .ok (.i2l, 1) := dk133 (rd_c chX11_netted_3_07 (j := 14) rfl rfl)
theorem dX11_netted_63 : decode cX11_netted 63 = .ok (.lreturn, 1) := dk173 (rd_c chX11_netted_3_07 (j := 15) rfl rfl)
theorem chX11_netted_4_07 : ((cX11_netted.data.toList.drop 64).take 16).map UInt8.toNat = [42, 180, 0, 156, 27, 47, 173, 42, 180, 0, 153, 27, 46, 133, 173, 20] := by decide +kernel
theorem dX11_netted_64 : decode cX11_netted 64 = .ok (.aload_n 0, 1) := dk42 (rd_c chX11_netted_4_07 (j := 0) rfl rfl)
theorem dX11_netted_65 : decode cX11_netted 65 = .ok (.getfield 156, 3) := dk180 (rd_c chX11_netted_4_07 (j := 1) rfl rfl) (rd_c chX11_netted_4_07 (j := 2) rfl rfl) (rd_c chX11_netted_4_07 (j := 3) rfl rfl) rfl
theorem dX11_netted_68 : decode cX11_netted 68 = .ok (.iload_n 1, 1) := dk27 (rd_c chX11_netted_4_07 (j := 4) rfl rfl)
theorem dX11_netted_69 : decode cX11_netted 69 = .ok (.laload, 1) := dk47 (rd_c chX11_netted_4_07 (j := 5) rfl rfl)
theorem dX11_netted_70 : decode cX11_netted 70 = .ok (.lreturn, 1) := dk173 (rd_c chX11_netted_4_07 (j := 6) rfl rfl)
theorem dX11_netted_71 : decode cX11_netted 71 = .ok (.aload_n 0, 1) := dk42 (rd_c chX11_netted_4_07 (j := 7) rfl rfl)
theorem dX11_netted_72 : decode cX11_netted 72 = .ok (.getfield 153, 3) := dk180 (rd_c chX11_netted_4_07 (j := 8) rfl rfl) (rd_c chX11_netted_4_07 (j := 9) rfl rfl) (rd_c chX11_netted_4_07 (j := 10) rfl rfl) rfl
theorem dX11_netted_75 : decode cX11_netted 75 = .ok (.iload_n 1, 1) := dk27 (rd_c chX11_netted_4_07 (j := 11) rfl rfl)
theorem dX11_netted_76 : decode cX11_netted 76 = .ok (.iaload, 1) := dk46 (rd_c chX11_netted_4_07 (j := 12) rfl rfl)
theorem dX11_netted_77 : decode cX11_netted 77 = .ok (.i2l, 1) := dk133 (rd_c chX11_netted_4_07 (j := 13) rfl rfl)
theorem dX11_netted_78 : decode cX11_netted 78 = .ok (.lreturn, 1) := dk173 (rd_c chX11_netted_4_07 (j := 14) rfl rfl)
theorem chX11_netted_5_07 : ((cX11_netted.data.toList.drop 80).take 16).map UInt8.toNat = [1, 87, 173] := by decide +kernel
theorem dX11_netted_79 : decode cX11_netted 79 = .ok (.ldc2_w 343, 3) := dk20 (rd_c chX11_netted_4_07 (j := 15) rfl rfl) (rd_c chX11_netted_5_07 (j := 0) rfl rfl) (rd_c chX11_netted_5_07 (j := 1) rfl rfl) rfl
theorem dX11_netted_82 : decode cX11_netted 82 = .ok (.lreturn, 1) := dk173 (rd_c chX11_netted_5_07 (j := 2) rfl rfl)
set_option maxRecDepth 20000 in
theorem ggX11_count_X11_in : GoodIn wsX11_count wsX11_in := goodIn_sub (show ∀ w ∈ wsX11_in, w ∈ wsX11_count from (List.forall_mem_cons.mpr ⟨List.mem_cons_of_mem _ (List.mem_append_left _ (List.mem_of_getElem? (i := 12) rfl)), (fun _ h => absurd h List.not_mem_nil)⟩)) (by decide +kernel)
set_option maxRecDepth 20000 in
theorem gX11_count_X11_in : GoodIn wsX11_count (va_wsS RX11 170 yX11_in wsX11_in) := goodIn_app (goodIn_sub (List.forall_mem_cons.mpr ⟨List.mem_cons_of_mem _ (List.mem_append_left _ (List.mem_of_getElem? (i := 9) rfl)), (List.forall_mem_cons.mpr ⟨List.mem_cons_of_mem _ (List.mem_append_left _ (List.mem_of_getElem? (i := 10) rfl)), (List.forall_mem_cons.mpr ⟨List.mem_cons_of_mem _ (List.mem_append_left _ (List.mem_of_getElem? (i := 11) rfl)), (fun _ h => absurd h List.not_mem_nil)⟩)⟩)⟩) (by decide +kernel)) ggX11_count_X11_in
theorem chX11_count_0_07 : ((cX11_count.data.toList.drop 0).take 16).map UInt8.toNat = [27, 16, 10, 16, 21, 184, 0, 170, 153, 0, 13, 42, 180, 0, 74, 27] := by decide +kernel
theorem dX11_count_0 : decode cX11_count 0 = .ok (.iload_n 1, 1) := dk27 (rd_c chX11_count_0_07 (j := 0) rfl rfl)
theorem dX11_count_1 : decode cX11_count 1 = .ok (.bipush 10, 2) := dk16 (rd_c chX11_count_0_07 (j := 1) rfl rfl) (rd_c chX11_count_0_07 (j := 2) rfl rfl) rfl
theorem dX11_count_3 : decode cX11_count 3 = .ok (.bipush 21, 2) := dk16 (rd_c chX11_count_0_07 (j := 3) rfl rfl) (rd_c chX11_count_0_07 (j := 4) rfl rfl) rfl
theorem dX11_count_5 : decode cX11_count 5 = .ok (.invokestatic 170, 3) := dk184 (rd_c chX11_count_0_07 (j := 5) rfl rfl) (rd_c chX11_count_0_07 (j := 6) rfl rfl) (rd_c chX11_count_0_07 (j := 7) rfl rfl) rfl
theorem dX11_count_8 : decode cX11_count 8 = .ok (.ifCond .eq 13, 3) := dk153 (rd_c chX11_count_0_07 (j := 8) rfl rfl) (rd_c chX11_count_0_07 (j := 9) rfl rfl) (rd_c chX11_count_0_07 (j := 10) rfl rfl) rfl
theorem dX11_count_11 : decode cX11_count 11 = .ok (.aload_n 0, 1) := dk42 (rd_c chX11_count_0_07 (j := 11) rfl rfl)
theorem dX11_count_12 : decode cX11_count 12 = .ok (.getfield 74, 3) := dk180 (rd_c chX11_count_0_07 (j := 12) rfl rfl) (rd_c chX11_count_0_07 (j := 13) rfl rfl) (rd_c chX11_count_0_07 (j := 14) rfl rfl) rfl
theorem dX11_count_15 : decode cX11_count 15 = .ok (.iload_n 1, 1) := dk27 (rd_c chX11_count_0_07 (j := 15) rfl rfl)
theorem chX11_count_1_07 : ((cX11_count.data.toList.drop 16).take 16).map UInt8.toNat = [16, 10, 100, 46, 172, 27, 16, 30, 16, 34, 184, 0, 170, 153, 0, 13] := by decide +kernel
theorem dX11_count_16 : decode cX11_count 16 = .ok (.bipush 10, 2) := dk16 (rd_c chX11_count_1_07 (j := 0) rfl rfl) (rd_c chX11_count_1_07 (j := 1) rfl rfl) rfl
theorem dX11_count_18 : decode cX11_count 18 = .ok (.isub, 1) := dk100 (rd_c chX11_count_1_07 (j := 2) rfl rfl)
theorem dX11_count_19 : decode cX11_count 19 = .ok (.iaload, 1) := dk46 (rd_c chX11_count_1_07 (j := 3) rfl rfl)
theorem dX11_count_20 : decode cX11_count 20 = .ok (.ireturn, 1) := dk172 (rd_c chX11_count_1_07 (j := 4) rfl rfl)
theorem dX11_count_21 : decode cX11_count 21 = .ok (.iload_n 1, 1) := dk27 (rd_c chX11_count_1_07 (j := 5) rfl rfl)
theorem dX11_count_22 : decode cX11_count 22 = .ok (.bipush 30, 2) := dk16 (rd_c chX11_count_1_07 (j := 6) rfl rfl) (rd_c chX11_count_1_07 (j := 7) rfl rfl) rfl
theorem dX11_count_24 : decode cX11_count 24 = .ok (.bipush 34, 2) := dk16 (rd_c chX11_count_1_07 (j := 8) rfl rfl) (rd_c chX11_count_1_07 (j := 9) rfl rfl) rfl
theorem dX11_count_26 : decode cX11_count 26 = .ok (.invokestatic 170, 3) := dk184 (rd_c chX11_count_1_07 (j := 10) rfl rfl) (rd_c chX11_count_1_07 (j := 11) rfl rfl) (rd_c chX11_count_1_07 (j := 12) rfl rfl) rfl
theorem dX11_count_29 : decode cX11_count 29 = .ok (.ifCond .eq 13, 3) := dk153 (rd_c chX11_count_1_07 (j := 13) rfl rfl) (rd_c chX11_count_1_07 (j := 14) rfl rfl) (rd_c chX11_count_1_07 (j := 15) rfl rfl) rfl
theorem chX11_count_2_07 : ((cX11_count.data.toList.drop 32).take 16).map UInt8.toNat = [42, 180, 0, 92, 27, 16, 30, 100, 46, 172, 27, 170, 0, 0, 0, 76] := by decide +kernel
theorem dX11_count_32 : decode cX11_count 32 = .ok (.aload_n 0, 1) := dk42 (rd_c chX11_count_2_07 (j := 0) rfl rfl)
theorem dX11_count_33 : decode cX11_count 33 = .ok (.getfield 92, 3) := dk180 (rd_c chX11_count_2_07 (j := 1) rfl rfl) (rd_c chX11_count_2_07 (j := 2) rfl rfl) (rd_c chX11_count_2_07 (j := 3) rfl rfl) rfl
theorem dX11_count_36 : decode cX11_count 36 = .ok (.iload_n 1, 1) := dk27 (rd_c chX11_count_2_07 (j := 4) rfl rfl)
theorem dX11_count_37 : decode cX11_count 37 = .ok (.bipush 30, 2) := dk16 (rd_c chX11_count_2_07 (j := 5) rfl rfl) (rd_c chX11_count_2_07 (j := 6) rfl rfl) rfl
theorem dX11_count_39 : decode cX11_count 39 = .ok (.isub, 1) := dk100 (rd_c chX11_count_2_07 (j := 7) rfl rfl)
theorem dX11_count_40 : decode cX11_count 40 = .ok (.iaload, 1) := dk46 (rd_c chX11_count_2_07 (j := 8) rfl rfl)
theorem dX11_count_41 : decode cX11_count 41 = .ok (.ireturn, 1) := dk172 (rd_c chX11_count_2_07 (j := 9) rfl rfl)
theorem dX11_count_42 : decode cX11_count 42 = .ok (.iload_n 1, 1) := dk27 (rd_c chX11_count_2_07 (j := 10) rfl rfl)
theorem dX11_count_43 : decode cX11_count 43 = .ok (.tableswitch 76 0 6 #[41, 46, 51, 56, 61, 66, 71], 41) := by decide +kernel
theorem chX11_count_5_07 : ((cX11_count.data.toList.drop 80).take 16).map UInt8.toNat = [0, 0, 0, 71, 42, 180, 0, 167, 172, 42, 180, 0, 179, 172, 42, 180] := by decide +kernel
theorem dX11_count_84 : decode cX11_count 84 = .ok (.aload_n 0, 1) := dk42 (rd_c chX11_count_5_07 (j := 4) rfl rfl)
theorem dX11_count_85 : decode cX11_count 85 = .ok (.getfield 167, 3) := dk180 (rd_c chX11_count_5_07 (j := 5) rfl rfl) (rd_c chX11_count_5_07 (j := 6) rfl rfl) (rd_c chX11_count_5_07 (j := 7) rfl rfl) rfl
theorem dX11_count_88 : decode cX11_count 88 = .ok (.ireturn, 1) := dk172 (rd_c chX11_count_5_07 (j := 8) rfl rfl)
theorem dX11_count_89 : decode cX11_count 89 = .ok (.aload_n 0, 1) := dk42 (rd_c chX11_count_5_07 (j := 9) rfl rfl)
theorem dX11_count_90 : decode cX11_count 90 = .ok (.getfield 179, 3) := dk180 (rd_c chX11_count_5_07 (j := 10) rfl rfl) (rd_c chX11_count_5_07 (j := 11) rfl rfl) (rd_c chX11_count_5_07 (j := 12) rfl rfl) rfl
theorem dX11_count_93 : decode cX11_count 93 = .ok (.ireturn, 1) := dk172 (rd_c chX11_count_5_07 (j := 13) rfl rfl)
theorem dX11_count_94 : decode cX11_count 94 = .ok (.aload_n 0, 1) := dk42 (rd_c chX11_count_5_07 (j := 14) rfl rfl)
theorem chX11_count_6_07 : ((cX11_count.data.toList.drop 96).take 16).map UInt8.toNat = [0, 187, 172, 42, 180, 0, 194, 172, 42, 180, 1, 58, 172, 42, 180, 0] := by decide +kernel
theorem dX11_count_95 : decode cX11_count 95 = .ok (.getfield 187, 3) := dk180 (rd_c chX11_count_5_07 (j := 15) rfl rfl) (rd_c chX11_count_6_07 (j := 0) rfl rfl) (rd_c chX11_count_6_07 (j := 1) rfl rfl) rfl
theorem dX11_count_98 : decode cX11_count 98 = .ok (.ireturn, 1) := dk172 (rd_c chX11_count_6_07 (j := 2) rfl rfl)
theorem dX11_count_99 : decode cX11_count 99 = .ok (.aload_n 0, 1) := dk42 (rd_c chX11_count_6_07 (j := 3) rfl rfl)
theorem dX11_count_100 : decode cX11_count 100 = .ok (.getfield 194, 3) := dk180 (rd_c chX11_count_6_07 (j := 4) rfl rfl) (rd_c chX11_count_6_07 (j := 5) rfl rfl) (rd_c chX11_count_6_07 (j := 6) rfl rfl) rfl
theorem dX11_count_103 : decode cX11_count 103 = .ok (.ireturn, 1) := dk172 (rd_c chX11_count_6_07 (j := 7) rfl rfl)
theorem dX11_count_104 : decode cX11_count 104 = .ok (.aload_n 0, 1) := dk42 (rd_c chX11_count_6_07 (j := 8) rfl rfl)
theorem dX11_count_105 : decode cX11_count 105 = .ok (.getfield 314, 3) := dk180 (rd_c chX11_count_6_07 (j := 9) rfl rfl) (rd_c chX11_count_6_07 (j := 10) rfl rfl) (rd_c chX11_count_6_07 (j := 11) rfl rfl) rfl
theorem dX11_count_108 : decode cX11_count 108 = .ok (.ireturn, 1) := dk172 (rd_c chX11_count_6_07 (j := 12) rfl rfl)
theorem dX11_count_109 : decode cX11_count 109 = .ok (.aload_n 0, 1) := dk42 (rd_c chX11_count_6_07 (j := 13) rfl rfl)
theorem chX11_count_7_07 : ((cX11_count.data.toList.drop 112).take 16).map UInt8.toNat = [197, 172, 42, 180, 1, 80, 172, 2, 172] := by decide +kernel
theorem dX11_count_110 : decode cX11_count 110 = .ok (.getfield 197, 3) := dk180 (rd_c chX11_count_6_07 (j := 14) rfl rfl) (rd_c chX11_count_6_07 (j := 15) rfl rfl) (rd_c chX11_count_7_07 (j := 0) rfl rfl) rfl
theorem dX11_count_113 : decode cX11_count 113 = .ok (.ireturn, 1) := dk172 (rd_c chX11_count_7_07 (j := 1) rfl rfl)
theorem dX11_count_114 : decode cX11_count 114 = .ok (.aload_n 0, 1) := dk42 (rd_c chX11_count_7_07 (j := 2) rfl rfl)
theorem dX11_count_115 : decode cX11_count 115 = .ok (.getfield 336, 3) := dk180 (rd_c chX11_count_7_07 (j := 3) rfl rfl) (rd_c chX11_count_7_07 (j := 4) rfl rfl) (rd_c chX11_count_7_07 (j := 5) rfl rfl) rfl
theorem dX11_count_118 : decode cX11_count 118 = .ok (.ireturn, 1) := dk172 (rd_c chX11_count_7_07 (j := 6) rfl rfl)
theorem dX11_count_119 : decode cX11_count 119 = .ok (.iconst (-1), 1) := dk2 (rd_c chX11_count_7_07 (j := 7) rfl rfl)
theorem dX11_count_120 : decode cX11_count 120 = .ok (.ireturn, 1) := dk172 (rd_c chX11_count_7_07 (j := 8) rfl rfl)
theorem chJ9_abs_0f7a4_0_07 : ((cJ9_abs_0f7a4.data.toList.drop 0).take 16).map UInt8.toNat = [26, 156, 0, 8, 26, 116, 167, 0, 4, 26, 172] := by decide +kernel
theorem dJ9_abs_0f7a4_0 : decode cJ9_abs_0f7a4 0 = .ok (.iload_n 0, 1) := dk26 (rd_c chJ9_abs_0f7a4_0_07 (j := 0) rfl rfl)
theorem dJ9_abs_0f7a4_1 : decode cJ9_abs_0f7a4 1 = .ok (.ifCond .ge 8, 3) := dk156 (rd_c chJ9_abs_0f7a4_0_07 (j := 1) rfl rfl) (rd_c chJ9_abs_0f7a4_0_07 (j := 2) rfl rfl) (rd_c chJ9_abs_0f7a4_0_07 (j := 3) rfl rfl) rfl
theorem dJ9_abs_0f7a4_4 : decode cJ9_abs_0f7a4 4 = .ok (.iload_n 0, 1) := dk26 (rd_c chJ9_abs_0f7a4_0_07 (j := 4) rfl rfl)
theorem dJ9_abs_0f7a4_5 : decode cJ9_abs_0f7a4 5 = .ok (.ineg, 1) := dk116 (rd_c chJ9_abs_0f7a4_0_07 (j := 5) rfl rfl)
theorem dJ9_abs_0f7a4_6 : decode cJ9_abs_0f7a4 6 = .ok (.goto 4, 3) := dk167 (rd_c chJ9_abs_0f7a4_0_07 (j := 6) rfl rfl) (rd_c chJ9_abs_0f7a4_0_07 (j := 7) rfl rfl) (rd_c chJ9_abs_0f7a4_0_07 (j := 8) rfl rfl) rfl
theorem dJ9_abs_0f7a4_9 : decode cJ9_abs_0f7a4 9 = .ok (.iload_n 0, 1) := dk26 (rd_c chJ9_abs_0f7a4_0_07 (j := 9) rfl rfl)
theorem dJ9_abs_0f7a4_10 : decode cJ9_abs_0f7a4 10 = .ok (.ireturn, 1) := dk172 (rd_c chJ9_abs_0f7a4_0_07 (j := 10) rfl rfl)
theorem chJ9_min_7cf53_0_07 : ((cJ9_min_7cf53.data.toList.drop 0).take 16).map UInt8.toNat = [26, 27, 163, 0, 7, 26, 167, 0, 4, 27, 172] := by decide +kernel
theorem dJ9_min_7cf53_0 : decode cJ9_min_7cf53 0 = .ok (.iload_n 0, 1) := dk26 (rd_c chJ9_min_7cf53_0_07 (j := 0) rfl rfl)
theorem dJ9_min_7cf53_1 : decode cJ9_min_7cf53 1 = .ok (.iload_n 1, 1) := dk27 (rd_c chJ9_min_7cf53_0_07 (j := 1) rfl rfl)
theorem dJ9_min_7cf53_2 : decode cJ9_min_7cf53 2 = .ok (.if_icmp .gt 7, 3) := dk163 (rd_c chJ9_min_7cf53_0_07 (j := 2) rfl rfl) (rd_c chJ9_min_7cf53_0_07 (j := 3) rfl rfl) (rd_c chJ9_min_7cf53_0_07 (j := 4) rfl rfl) rfl
theorem dJ9_min_7cf53_5 : decode cJ9_min_7cf53 5 = .ok (.iload_n 0, 1) := dk26 (rd_c chJ9_min_7cf53_0_07 (j := 5) rfl rfl)
theorem dJ9_min_7cf53_6 : decode cJ9_min_7cf53 6 = .ok (.goto 4, 3) := dk167 (rd_c chJ9_min_7cf53_0_07 (j := 6) rfl rfl) (rd_c chJ9_min_7cf53_0_07 (j := 7) rfl rfl) (rd_c chJ9_min_7cf53_0_07 (j := 8) rfl rfl) rfl
theorem dJ9_min_7cf53_9 : decode cJ9_min_7cf53 9 = .ok (.iload_n 1, 1) := dk27 (rd_c chJ9_min_7cf53_0_07 (j := 9) rfl rfl)
theorem dJ9_min_7cf53_10 : decode cJ9_min_7cf53 10 = .ok (.ireturn, 1) := dk172 (rd_c chJ9_min_7cf53_0_07 (j := 10) rfl rfl)
theorem chJ9_min_f86c9_0_07 : ((cJ9_min_f86c9.data.toList.drop 0).take 16).map UInt8.toNat = [30, 32, 148, 157, 0, 7, 30, 167, 0, 4, 32, 173] := by decide +kernel
theorem dJ9_min_f86c9_0 : decode cJ9_min_f86c9 0 = .ok (.lload_n 0, 1) := dk30 (rd_c chJ9_min_f86c9_0_07 (j := 0) rfl rfl)
theorem dJ9_min_f86c9_1 : decode cJ9_min_f86c9 1 = .ok (.lload_n 2, 1) := dk32 (rd_c chJ9_min_f86c9_0_07 (j := 1) rfl rfl)
theorem dJ9_min_f86c9_2 : decode cJ9_min_f86c9 2 = .ok (.lcmp, 1) := dk148 (rd_c chJ9_min_f86c9_0_07 (j := 2) rfl rfl)
theorem dJ9_min_f86c9_3 : decode cJ9_min_f86c9 3 = .ok (.ifCond .gt 7, 3) := dk157 (rd_c chJ9_min_f86c9_0_07 (j := 3) rfl rfl) (rd_c chJ9_min_f86c9_0_07 (j := 4) rfl rfl) (rd_c chJ9_min_f86c9_0_07 (j := 5) rfl rfl) rfl
theorem dJ9_min_f86c9_6 : decode cJ9_min_f86c9 6 = .ok (.lload_n 0, 1) := dk30 (rd_c chJ9_min_f86c9_0_07 (j := 6) rfl rfl)
theorem dJ9_min_f86c9_7 : decode cJ9_min_f86c9 7 = .ok (.goto 4, 3) := dk167 (rd_c chJ9_min_f86c9_0_07 (j := 7) rfl rfl) (rd_c chJ9_min_f86c9_0_07 (j := 8) rfl rfl) (rd_c chJ9_min_f86c9_0_07 (j := 9) rfl rfl) rfl
theorem dJ9_min_f86c9_10 : decode cJ9_min_f86c9 10 = .ok (.lload_n 2, 1) := dk32 (rd_c chJ9_min_f86c9_0_07 (j := 10) rfl rfl)
theorem dJ9_min_f86c9_11 : decode cJ9_min_f86c9 11 = .ok (.lreturn, 1) := dk173 (rd_c chJ9_min_f86c9_0_07 (j := 11) rfl rfl)
set_option maxRecDepth 20000 in
theorem ggJ0_length_8abf5_J0_coder_7d493 : GoodIn wsJ0_length_8abf5 wsJ0_coder_7d493 := goodIn_sub (show ∀ w ∈ wsJ0_coder_7d493, w ∈ wsJ0_length_8abf5 from (List.forall_mem_cons.mpr ⟨List.mem_cons_of_mem _ (List.mem_of_getElem? (i := 5) rfl), (List.forall_mem_cons.mpr ⟨List.mem_cons_of_mem _ (List.mem_of_getElem? (i := 6) rfl), (List.forall_mem_cons.mpr ⟨List.mem_cons_of_mem _ (List.mem_of_getElem? (i := 7) rfl), (fun _ h => absurd h List.not_mem_nil)⟩)⟩)⟩)) (by decide +kernel)
set_option maxRecDepth 20000 in
theorem gJ0_length_8abf5_J0_coder_7d493 : GoodIn wsJ0_length_8abf5 (wsV RJ0 335 RJ0 yJ0_coder_7d493 wsJ0_coder_7d493) := goodIn_app (goodIn_sub (List.forall_mem_cons.mpr ⟨List.mem_cons_of_mem _ (List.mem_of_getElem? (i := 1) rfl), (List.forall_mem_cons.mpr ⟨List.mem_cons_of_mem _ (List.mem_of_getElem? (i := 2) rfl), (List.forall_mem_cons.mpr ⟨List.mem_cons_of_mem _ (List.mem_of_getElem? (i := 3) rfl), (List.forall_mem_cons.mpr ⟨List.mem_cons_of_mem _ (List.mem_of_getElem? (i := 4) rfl), (fun _ h => absurd h List.not_mem_nil)⟩)⟩)⟩)⟩) (by decide +kernel)) ggJ0_length_8abf5_J0_coder_7d493
theorem chJ0_length_8abf5_0_07 : ((cJ0_length_8abf5.data.toList.drop 0).take 16).map UInt8.toNat = [42, 180, 0, 9, 190, 42, 182, 1, 79, 122, 172] := by decide +kernel
theorem dJ0_length_8abf5_0 : decode cJ0_length_8abf5 0 = .ok (.aload_n 0, 1) := dk42 (rd_c chJ0_length_8abf5_0_07 (j := 0) rfl rfl)
theorem dJ0_length_8abf5_1 : decode cJ0_length_8abf5 1 = .ok (.getfield 9, 3) := dk180 (rd_c chJ0_length_8abf5_0_07 (j := 1) rfl rfl) (rd_c chJ0_length_8abf5_0_07 (j := 2) rfl rfl) (rd_c chJ0_length_8abf5_0_07 (j := 3) rfl rfl) rfl
theorem dJ0_length_8abf5_4 : decode cJ0_length_8abf5 4 = .ok (.arraylength, 1) := dk190 (rd_c chJ0_length_8abf5_0_07 (j := 4) rfl rfl)
theorem dJ0_length_8abf5_5 : decode cJ0_length_8abf5 5 = .ok (.aload_n 0, 1) := dk42 (rd_c chJ0_length_8abf5_0_07 (j := 5) rfl rfl)
theorem dJ0_length_8abf5_6 : decode cJ0_length_8abf5 6 = .ok (.invokevirtual 335, 3) := dk182 (rd_c chJ0_length_8abf5_0_07 (j := 6) rfl rfl) (rd_c chJ0_length_8abf5_0_07 (j := 7) rfl rfl) (rd_c chJ0_length_8abf5_0_07 (j := 8) rfl rfl) rfl
theorem dJ0_length_8abf5_9 : decode cJ0_length_8abf5 9 = .ok (.ishr, 1) := dk122 (rd_c chJ0_length_8abf5_0_07 (j := 9) rfl rfl)
theorem dJ0_length_8abf5_10 : decode cJ0_length_8abf5 10 = .ok (.ireturn, 1) := dk172 (rd_c chJ0_length_8abf5_0_07 (j := 10) rfl rfl)
set_option maxRecDepth 20000 in
theorem ggJ0_charAt_5068e_J0_isLatin1_aae02 : GoodIn wsJ0_charAt_5068e wsJ0_isLatin1_aae02 := goodIn_sub (show ∀ w ∈ wsJ0_isLatin1_aae02, w ∈ wsJ0_charAt_5068e from (List.forall_mem_cons.mpr ⟨List.mem_cons_of_mem _ (List.mem_append_left _ (List.mem_of_getElem? (i := 5) rfl)), (List.forall_mem_cons.mpr ⟨List.mem_cons_of_mem _ (List.mem_append_left _ (List.mem_of_getElem? (i := 6) rfl)), (List.forall_mem_cons.mpr ⟨List.mem_cons_of_mem _ (List.mem_append_left _ (List.mem_of_getElem? (i := 7) rfl)), (fun _ h => absurd h List.not_mem_nil)⟩)⟩)⟩)) (by decide +kernel)
set_option maxRecDepth 20000 in
theorem gJ0_charAt_5068e_J0_isLatin1_aae02 : GoodIn wsJ0_charAt_5068e (wsV RJ0 492 RJ0 yJ0_isLatin1_aae02 wsJ0_isLatin1_aae02) := goodIn_app (goodIn_sub (List.forall_mem_cons.mpr ⟨List.mem_cons_of_mem _ (List.mem_append_left _ (List.mem_of_getElem? (i := 1) rfl)), (List.forall_mem_cons.mpr ⟨List.mem_cons_of_mem _ (List.mem_append_left _ (List.mem_of_getElem? (i := 2) rfl)), (List.forall_mem_cons.mpr ⟨List.mem_cons_of_mem _ (List.mem_append_left _ (List.mem_of_getElem? (i := 3) rfl)), (List.forall_mem_cons.mpr ⟨List.mem_cons_of_mem _ (List.mem_append_left _ (List.mem_of_getElem? (i := 4) rfl)), (fun _ h => absurd h List.not_mem_nil)⟩)⟩)⟩)⟩) (by decide +kernel)) ggJ0_charAt_5068e_J0_isLatin1_aae02
set_option maxRecDepth 20000 in
theorem ggJ0_charAt_5068e_J1_charAt_3b067 : GoodIn wsJ0_charAt_5068e wsJ1_charAt_3b067 := goodIn_sub (show ∀ w ∈ wsJ1_charAt_3b067, w ∈ wsJ0_charAt_5068e from (List.forall_mem_cons.mpr ⟨List.mem_cons_of_mem _ (List.mem_append_left _ (List.mem_of_getElem? (i := 11) rfl)), (List.forall_mem_cons.mpr ⟨List.mem_cons_of_mem _ (List.mem_append_left _ (List.mem_of_getElem? (i := 12) rfl)), (List.forall_mem_cons.mpr ⟨List.mem_cons_of_mem _ (List.mem_append_left _ (List.mem_of_getElem? (i := 13) rfl)), (List.forall_mem_cons.mpr ⟨List.mem_cons_of_mem _ (List.mem_append_left _ (List.mem_of_getElem? (i := 4) rfl)), (List.forall_mem_cons.mpr ⟨List.mem_cons_of_mem _ (List.mem_append_left _ (List.mem_of_getElem? (i := 14) rfl)), (List.forall_mem_cons.mpr ⟨List.mem_cons_of_mem _ (List.mem_append_left _ (List.mem_of_getElem? (i := 15) rfl)), (List.forall_mem_cons.mpr ⟨List.mem_cons_of_mem _ (List.mem_append_left _ (List.mem_of_getElem? (i := 16) rfl)), (List.forall_mem_cons.mpr ⟨List.mem_cons_of_mem _ (List.mem_append_left _ (List.mem_of_getElem? (i := 17) rfl)), (List.forall_mem_cons.mpr ⟨List.mem_cons_of_mem _ (List.mem_append_left _ (List.mem_of_getElem? (i := 18) rfl)), (List.forall_mem_cons.mpr ⟨List.mem_cons_of_mem _ (List.mem_append_left _ (List.mem_of_getElem? (i := 19) rfl)), (fun _ h => absurd h List.not_mem_nil)⟩)⟩)⟩)⟩)⟩)⟩)⟩)⟩)⟩)⟩)) (by decide +kernel)
set_option maxRecDepth 20000 in
theorem gJ0_charAt_5068e_J1_charAt_3b067 : GoodIn wsJ0_charAt_5068e (va_wsS RJ0 495 yJ1_charAt_3b067 wsJ1_charAt_3b067) := goodIn_app (goodIn_sub (List.forall_mem_cons.mpr ⟨List.mem_cons_of_mem _ (List.mem_append_left _ (List.mem_of_getElem? (i := 8) rfl)), (List.forall_mem_cons.mpr ⟨List.mem_cons_of_mem _ (List.mem_append_left _ (List.mem_of_getElem? (i := 9) rfl)), (List.forall_mem_cons.mpr ⟨List.mem_cons_of_mem _ (List.mem_append_left _ (List.mem_of_getElem? (i := 10) rfl)), (fun _ h => absurd h List.not_mem_nil)⟩)⟩)⟩) (by decide +kernel)) ggJ0_charAt_5068e_J1_charAt_3b067
set_option maxRecDepth 20000 in
theorem ggJ0_charAt_5068e_J2_charAt_3b067 : GoodIn wsJ0_charAt_5068e wsJ2_charAt_3b067 := goodIn_sub (show ∀ w ∈ wsJ2_charAt_3b067, w ∈ wsJ0_charAt_5068e from (List.forall_mem_cons.mpr ⟨List.mem_cons_of_mem _ (List.mem_append_left _ (List.mem_of_getElem? (i := 23) rfl)), (List.forall_mem_cons.mpr ⟨List.mem_cons_of_mem _ (List.mem_append_right _ (List.mem_of_getElem? (i := 0) rfl)), (List.forall_mem_cons.mpr ⟨List.mem_cons_of_mem _ (List.mem_append_right _ (List.mem_of_getElem? (i := 1) rfl)), (List.forall_mem_cons.mpr ⟨List.mem_cons_of_mem _ (List.mem_append_left _ (List.mem_of_getElem? (i := 22) rfl)), (List.forall_mem_cons.mpr ⟨List.mem_cons_of_mem _ (List.mem_append_right _ (List.mem_of_getElem? (i := 2) rfl)), (List.forall_mem_cons.mpr ⟨List.mem_cons_of_mem _ (List.mem_append_right _ (List.mem_of_getElem? (i := 3) rfl)), (List.forall_mem_cons.mpr ⟨List.mem_cons_of_mem _ (List.mem_append_right _ (List.mem_of_getElem? (i := 4) rfl)), (List.forall_mem_cons.mpr ⟨List.mem_cons_of_mem _ (List.mem_append_right _ (List.mem_of_getElem? (i := 5) rfl)), (List.forall_mem_cons.mpr ⟨List.mem_cons_of_mem _ (List.mem_append_right _ (List.mem_of_getElem? (i := 6) rfl)), (List.forall_mem_cons.mpr ⟨List.mem_cons_of_mem _ (List.mem_append_left _ (List.mem_of_getElem? (i := 13) rfl)), (List.forall_mem_cons.mpr ⟨List.mem_cons_of_mem _ (List.mem_append_left _ (List.mem_of_getElem? (i := 4) rfl)), (List.forall_mem_cons.mpr ⟨List.mem_cons_of_mem _ (List.mem_append_left _ (List.mem_of_getElem? (i := 14) rfl)), (List.forall_mem_cons.mpr ⟨List.mem_cons_of_mem _ (List.mem_append_left _ (List.mem_of_getElem? (i := 15) rfl)), (List.forall_mem_cons.mpr ⟨List.mem_cons_of_mem _ (List.mem_append_left _ (List.mem_of_getElem? (i := 16) rfl)), (List.forall_mem_cons.mpr ⟨List.mem_cons_of_mem _ (List.mem_append_left _ (List.mem_of_getElem? (i := 17) rfl)), (List.forall_mem_cons.mpr ⟨List.mem_cons_of_mem _ (List.mem_append_left _ (List.mem_of_getElem? (i := 18) rfl)), (List.forall_mem_cons.mpr ⟨List.mem_cons_of_mem _ (List.mem_append_left _ (List.mem_of_getElem? (i := 19) rfl)), (List.forall_mem_cons.mpr ⟨List.mem_cons_of_mem _ (List.mem_append_right _ (List.mem_of_getElem? (i := 7) rfl)), (List.forall_mem_cons.mpr ⟨List.mem_cons_of_mem _ (List.mem_append_right _ (List.mem_of_getElem? (i := 8) rfl)), (List.forall_mem_cons.mpr ⟨List.mem_cons_of_mem _ (List.mem_append_right _ (List.mem_of_getElem? (i := 9) rfl)), (List.forall_mem_cons.mpr ⟨List.mem_cons_of_mem _ (List.mem_append_right _ (List.mem_of_getElem? (i := 10) rfl)), (List.forall_mem_cons.mpr ⟨List.mem_cons_of_mem _ (List.mem_append_right _ (List.mem_of_getElem? (i := 11) rfl)), (List.forall_mem_cons.mpr ⟨List.mem_cons_of_mem _ (List.mem_append_right _ (List.mem_of_getElem? (i := 12) rfl)), (fun _ h => absurd h List.not_mem_nil)⟩)⟩)⟩)⟩)⟩)⟩)⟩)⟩)⟩)⟩)⟩)⟩)⟩)⟩)⟩)⟩)⟩)⟩)⟩)⟩)⟩)⟩)⟩)) (by decide +kernel)
set_option maxRecDepth 20000 in
theorem gJ0_charAt_5068e_J2_charAt_3b067 : GoodIn wsJ0_charAt_5068e (va_wsS RJ0 498 yJ2_charAt_3b067 wsJ2_charAt_3b067) := goodIn_app (goodIn_sub (List.forall_mem_cons.mpr ⟨List.mem_cons_of_mem _ (List.mem_append_left _ (List.mem_of_getElem? (i := 20) rfl)), (List.forall_mem_cons.mpr ⟨List.mem_cons_of_mem _ (List.mem_append_left _ (List.mem_of_getElem? (i := 21) rfl)), (List.forall_mem_cons.mpr ⟨List.mem_cons_of_mem _ (List.mem_append_left _ (List.mem_of_getElem? (i := 22) rfl)), (fun _ h => absurd h List.not_mem_nil)⟩)⟩)⟩) (by decide +kernel)) ggJ0_charAt_5068e_J2_charAt_3b067
theorem chJ0_charAt_5068e_0_07 : ((cJ0_charAt_5068e.data.toList.drop 0).take 16).map UInt8.toNat = [42, 182, 1, 236, 153, 0, 12, 42, 180, 0, 9, 27, 184, 1, 239, 172] := by decide +kernel
theorem dJ0_charAt_5068e_0 : decode cJ0_charAt_5068e 0 = .ok (.aload_n 0, 1) := dk42 (rd_c chJ0_charAt_5068e_0_07 (j := 0) rfl rfl)
theorem dJ0_charAt_5068e_1 : decode cJ0_charAt_5068e 1 = .ok (.invokevirtual 492, 3) := dk182 (rd_c chJ0_charAt_5068e_0_07 (j := 1) rfl rfl) (rd_c chJ0_charAt_5068e_0_07 (j := 2) rfl rfl) (rd_c chJ0_charAt_5068e_0_07 (j := 3) rfl rfl) rfl
theorem dJ0_charAt_5068e_4 : decode cJ0_charAt_5068e 4 = .ok (.ifCond .eq 12, 3) := dk153 (rd_c chJ0_charAt_5068e_0_07 (j := 4) rfl rfl) (rd_c chJ0_charAt_5068e_0_07 (j := 5) rfl rfl) (rd_c chJ0_charAt_5068e_0_07 (j := 6) rfl rfl) rfl
theorem dJ0_charAt_5068e_7 : decode cJ0_charAt_5068e 7 = .ok (.aload_n 0, 1) := dk42 (rd_c chJ0_charAt_5068e_0_07 (j := 7) rfl rfl)
theorem dJ0_charAt_5068e_8 : decode cJ0_charAt_5068e 8 = .ok (.getfield 9, 3) := dk180 (rd_c chJ0_charAt_5068e_0_07 (j := 8) rfl rfl) (rd_c chJ0_charAt_5068e_0_07 (j := 9) rfl rfl) (rd_c chJ0_charAt_5068e_0_07 (j := 10) rfl rfl) rfl
theorem dJ0_charAt_5068e_11 : decode cJ0_charAt_5068e 11 = .ok (.iload_n 1, 1) := dk27 (rd_c chJ0_charAt_5068e_0_07 (j := 11) rfl rfl)
theorem dJ0_charAt_5068e_12 : decode cJ0_charAt_5068e 12 = .ok (.invokestatic 495, 3) := dk184 (rd_c chJ0_charAt_5068e_0_07 (j := 12) rfl rfl) (rd_c chJ0_charAt_5068e_0_07 (j := 13) rfl rfl) (rd_c chJ0_charAt_5068e_0_07 (j := 14) rfl rfl) rfl
theorem dJ0_charAt_5068e_15 : decode cJ0_charAt_5068e 15 = .ok (.ireturn, 1) := dk172 (rd_c chJ0_charAt_5068e_0_07 (j := 15) rfl rfl)
theorem chJ0_charAt_5068e_1_07 : ((cJ0_charAt_5068e.data.toList.drop 16).take 16).map UInt8.toNat = [42, 180, 0, 9, 27, 184, 1, 242, 172] := by decide +kernel
theorem dJ0_charAt_5068e_16 : decode cJ0_charAt_5068e 16 = .ok (.aload_n 0, 1) := dk42 (rd_c chJ0_charAt_5068e_1_07 (j := 0) rfl rfl)
theorem dJ0_charAt_5068e_17 : decode cJ0_charAt_5068e 17 = .ok (.getfield 9, 3) := dk180 (rd_c chJ0_charAt_5068e_1_07 (j := 1) rfl rfl) (rd_c chJ0_charAt_5068e_1_07 (j := 2) rfl rfl) (rd_c chJ0_charAt_5068e_1_07 (j := 3) rfl rfl) rfl
theorem dJ0_charAt_5068e_20 : decode cJ0_charAt_5068e 20 = .ok (.iload_n 1, 1) := dk27 (rd_c chJ0_charAt_5068e_1_07 (j := 4) rfl rfl)
theorem dJ0_charAt_5068e_21 : decode cJ0_charAt_5068e 21 = .ok (.invokestatic 498, 3) := dk184 (rd_c chJ0_charAt_5068e_1_07 (j := 5) rfl rfl) (rd_c chJ0_charAt_5068e_1_07 (j := 6) rfl rfl) (rd_c chJ0_charAt_5068e_1_07 (j := 7) rfl rfl) rfl
theorem dJ0_charAt_5068e_24 : decode cJ0_charAt_5068e 24 = .ok (.ireturn, 1) := dk172 (rd_c chJ0_charAt_5068e_1_07 (j := 8) rfl rfl)
theorem chJ0_coder_7d493_0_07 : ((cJ0_coder_7d493.data.toList.drop 0).take 16).map UInt8.toNat = [178, 0, 38, 153, 0, 10, 42, 180, 0, 15, 167, 0, 4, 4, 172] := by decide +kernel
theorem dJ0_coder_7d493_0 : decode cJ0_coder_7d493 0 = .ok (.getstatic 38, 3) := dk178 (rd_c chJ0_coder_7d493_0_07 (j := 0) rfl rfl) (rd_c chJ0_coder_7d493_0_07 (j := 1) rfl rfl) (rd_c chJ0_coder_7d493_0_07 (j := 2) rfl rfl) rfl
theorem dJ0_coder_7d493_3 : decode cJ0_coder_7d493 3 = .ok (.ifCond .eq 10, 3) := dk153 (rd_c chJ0_coder_7d493_0_07 (j := 3) rfl rfl) (rd_c chJ0_coder_7d493_0_07 (j := 4) rfl rfl) (rd_c chJ0_coder_7d493_0_07 (j := 5) rfl rfl) rfl
theorem dJ0_coder_7d493_6 : decode cJ0_coder_7d493 6 = .ok (.aload_n 0, 1) := dk42 (rd_c chJ0_coder_7d493_0_07 (j := 6) rfl rfl)
theorem dJ0_coder_7d493_7 : decode cJ0_coder_7d493 7 = .ok (.getfield 15, 3) := dk180 (rd_c chJ0_coder_7d493_0_07 (j := 7) rfl rfl) (rd_c chJ0_coder_7d493_0_07 (j := 8) rfl rfl) (rd_c chJ0_coder_7d493_0_07 (j := 9) rfl rfl) rfl
theorem dJ0_coder_7d493_10 : decode cJ0_coder_7d493 10 = .ok (.goto 4, 3) := dk167 (rd_c chJ0_coder_7d493_0_07 (j := 10) rfl rfl) (rd_c chJ0_coder_7d493_0_07 (j := 11) rfl rfl) (rd_c chJ0_coder_7d493_0_07 (j := 12) rfl rfl) rfl
theorem dJ0_coder_7d493_13 : decode cJ0_coder_7d493 13 = .ok (.iconst 1, 1) := dk4 (rd_c chJ0_coder_7d493_0_07 (j := 13) rfl rfl)
theorem dJ0_coder_7d493_14 : decode cJ0_coder_7d493 14 = .ok (.ireturn, 1) := dk172 (rd_c chJ0_coder_7d493_0_07 (j := 14) rfl rfl)
theorem chJ0_isLatin1_aae02_0_07 : ((cJ0_isLatin1_aae02.data.toList.drop 0).take 16).map UInt8.toNat = [178, 0, 38, 153, 0, 14, 42, 180, 0, 15, 154, 0, 7, 4, 167, 0] := by decide +kernel
theorem dJ0_isLatin1_aae02_0 : decode cJ0_isLatin1_aae02 0 = .ok (.getstatic 38, 3) := dk178 (rd_c chJ0_isLatin1_aae02_0_07 (j := 0) rfl rfl) (rd_c chJ0_isLatin1_aae02_0_07 (j := 1) rfl rfl) (rd_c chJ0_isLatin1_aae02_0_07 (j := 2) rfl rfl) rfl
theorem dJ0_isLatin1_aae02_3 : decode cJ0_isLatin1_aae02 3 = .ok (.ifCond .eq 14, 3) := dk153 (rd_c chJ0_isLatin1_aae02_0_07 (j := 3) rfl rfl) (rd_c chJ0_isLatin1_aae02_0_07 (j := 4) rfl rfl) (rd_c chJ0_isLatin1_aae02_0_07 (j := 5) rfl rfl) rfl
theorem dJ0_isLatin1_aae02_6 : decode cJ0_isLatin1_aae02 6 = .ok (.aload_n 0, 1) := dk42 (rd_c chJ0_isLatin1_aae02_0_07 (j := 6) rfl rfl)
theorem dJ0_isLatin1_aae02_7 : decode cJ0_isLatin1_aae02 7 = .ok (.getfield 15, 3) := dk180 (rd_c chJ0_isLatin1_aae02_0_07 (j := 7) rfl rfl) (rd_c chJ0_isLatin1_aae02_0_07 (j := 8) rfl rfl) (rd_c chJ0_isLatin1_aae02_0_07 (j := 9) rfl rfl) rfl
theorem dJ0_isLatin1_aae02_10 : decode cJ0_isLatin1_aae02 10 = .ok (.ifCond .ne 7, 3) := dk154 (rd_c chJ0_isLatin1_aae02_0_07 (j := 10) rfl rfl) (rd_c chJ0_isLatin1_aae02_0_07 (j := 11) rfl rfl) (rd_c chJ0_isLatin1_aae02_0_07 (j := 12) rfl rfl) rfl
theorem dJ0_isLatin1_aae02_13 : decode cJ0_isLatin1_aae02 13 = .ok (.iconst 1, 1) := dk4 (rd_c chJ0_isLatin1_aae02_0_07 (j := 13) rfl rfl)
theorem chJ0_isLatin1_aae02_1_07 : ((cJ0_isLatin1_aae02.data.toList.drop 16).take 16).map UInt8.toNat = [4, 3, 172] := by decide +kernel
theorem dJ0_isLatin1_aae02_14 : decode cJ0_isLatin1_aae02 14 = .ok (.goto 4, 3) := dk167 (rd_c chJ0_isLatin1_aae02_0_07 (j := 14) rfl rfl) (rd_c chJ0_isLatin1_aae02_0_07 (j := 15) rfl rfl) (rd_c chJ0_isLatin1_aae02_1_07 (j := 0) rfl rfl) rfl
theorem dJ0_isLatin1_aae02_17 : decode cJ0_isLatin1_aae02 17 = .ok (.iconst 0, 1) := dk3 (rd_c chJ0_isLatin1_aae02_1_07 (j := 1) rfl rfl)
theorem dJ0_isLatin1_aae02_18 : decode cJ0_isLatin1_aae02 18 = .ok (.ireturn, 1) := dk172 (rd_c chJ0_isLatin1_aae02_1_07 (j := 2) rfl rfl)
set_option maxRecDepth 20000 in
theorem ggJ0_checkIndex_df160_J3_checkIndex_8e157 : GoodIn wsJ0_checkIndex_df160 wsJ3_checkIndex_8e157 := goodIn_sub (show ∀ w ∈ wsJ3_checkIndex_8e157, w ∈ wsJ0_checkIndex_df160 from (List.forall_mem_cons.mpr ⟨List.mem_cons_of_mem _ (List.mem_of_getElem? (i := 4) rfl), (fun _ h => absurd h List.not_mem_nil)⟩)) (by decide +kernel)
set_option maxRecDepth 20000 in
theorem gJ0_checkIndex_df160_J3_checkIndex_8e157 : GoodIn wsJ0_checkIndex_df160 (va_wsS RJ0 1059 yJ3_checkIndex_8e157 wsJ3_checkIndex_8e157) := goodIn_app (goodIn_sub (List.forall_mem_cons.mpr ⟨List.mem_cons_of_mem _ (List.mem_of_getElem? (i := 1) rfl), (List.forall_mem_cons.mpr ⟨List.mem_cons_of_mem _ (List.mem_of_getElem? (i := 2) rfl), (List.forall_mem_cons.mpr ⟨List.mem_cons_of_mem _ (List.mem_of_getElem? (i := 3) rfl), (fun _ h => absurd h List.not_mem_nil)⟩)⟩)⟩) (by decide +kernel)) ggJ0_checkIndex_df160_J3_checkIndex_8e157
theorem chJ0_checkIndex_df160_0_07 : ((cJ0_checkIndex_df160.data.toList.drop 0).take 16).map UInt8.toNat = [26, 27, 178, 4, 29, 184, 4, 35, 87, 177] := by decide +kernel
theorem dJ0_checkIndex_df160_0 : decode cJ0_checkIndex_df160 0 = .ok (.iload_n 0, 1) := dk26 (rd_c chJ0_checkIndex_df160_0_07 (j := 0) rfl rfl)
theorem dJ0_checkIndex_df160_1 : decode cJ0_checkIndex_df160 1 = .ok (.iload_n 1, 1) := dk27 (rd_c chJ0_checkIndex_df160_0_07 (j := 1) rfl rfl)
theorem dJ0_checkIndex_df160_2 : decode cJ0_checkIndex_df160 2 = .ok (.getstatic 1053, 3) := dk178 (rd_c chJ0_checkIndex_df160_0_07 (j := 2) rfl rfl) (rd_c chJ0_checkIndex_df160_0_07 (j := 3) rfl rfl) (rd_c chJ0_checkIndex_df160_0_07 (j := 4) rfl rfl) rfl
theorem dJ0_checkIndex_df160_5 : decode cJ0_checkIndex_df160 5 = .ok (.invokestatic 1059, 3) := dk184 (rd_c chJ0_checkIndex_df160_0_07 (j := 5) rfl rfl) (rd_c chJ0_checkIndex_df160_0_07 (j := 6) rfl rfl) (rd_c chJ0_checkIndex_df160_0_07 (j := 7) rfl rfl) rfl
theorem dJ0_checkIndex_df160_8 : decode cJ0_checkIndex_df160 8 = .ok (.pop, 1) := dk87 (rd_c chJ0_checkIndex_df160_0_07 (j := 8) rfl rfl)
theorem dJ0_checkIndex_df160_9 : decode cJ0_checkIndex_df160 9 = .ok (.return_, 1) := dk177 (rd_c chJ0_checkIndex_df160_0_07 (j := 9) rfl rfl)
set_option maxRecDepth 20000 in
theorem ggJ1_charAt_3b067_J0_checkIndex_df160 : GoodIn wsJ1_charAt_3b067 wsJ0_checkIndex_df160 := goodIn_sub (show ∀ w ∈ wsJ0_checkIndex_df160, w ∈ wsJ1_charAt_3b067 from (List.forall_mem_cons.mpr ⟨List.mem_cons_of_mem _ (List.mem_of_getElem? (i := 3) rfl), (List.forall_mem_cons.mpr ⟨List.mem_cons_of_mem _ (List.mem_of_getElem? (i := 4) rfl), (List.forall_mem_cons.mpr ⟨List.mem_cons_of_mem _ (List.mem_of_getElem? (i := 5) rfl), (List.forall_mem_cons.mpr ⟨List.mem_cons_of_mem _ (List.mem_of_getElem? (i := 6) rfl), (List.forall_mem_cons.mpr ⟨List.mem_cons_of_mem _ (List.mem_of_getElem? (i := 7) rfl), (List.forall_mem_cons.mpr ⟨List.mem_cons_of_mem _ (List.mem_of_getElem? (i := 8) rfl), (fun _ h => absurd h List.not_mem_nil)⟩)⟩)⟩)⟩)⟩)⟩)) (by decide +kernel)
set_option maxRecDepth 20000 in
theorem gJ1_charAt_3b067_J0_checkIndex_df160 : GoodIn wsJ1_charAt_3b067 (va_wsS RJ1 9 yJ0_checkIndex_df160 wsJ0_checkIndex_df160) := goodIn_app (goodIn_sub (List.forall_mem_cons.mpr ⟨List.mem_cons_of_mem _ (List.mem_of_getElem? (i := 0) rfl), (List.forall_mem_cons.mpr ⟨List.mem_cons_of_mem _ (List.mem_of_getElem? (i := 1) rfl), (List.forall_mem_cons.mpr ⟨List.mem_cons_of_mem _ (List.mem_of_getElem? (i := 2) rfl), (fun _ h => absurd h List.not_mem_nil)⟩)⟩)⟩) (by decide +kernel)) ggJ1_charAt_3b067_J0_checkIndex_df160
theorem chJ1_charAt_3b067_0_07 : ((cJ1_charAt_3b067.data.toList.drop 0).take 16).map UInt8.toNat = [27, 42, 190, 184, 0, 9, 42, 27, 51, 17, 0, 255, 126, 146, 172] := by decide +kernel
theorem dJ1_charAt_3b067_0 : decode cJ1_charAt_3b067 0 = .ok (.iload_n 1, 1) := dk27 (rd_c chJ1_charAt_3b067_0_07 (j := 0) rfl rfl)
theorem dJ1_charAt_3b067_1 : decode cJ1_charAt_3b067 1 = .ok (.aload_n 0, 1) := dk42 (rd_c chJ1_charAt_3b067_0_07 (j := 1) rfl rfl)
theorem dJ1_charAt_3b067_2 : decode cJ1_charAt_3b067 2 = .ok (.arraylength, 1) := dk190 (rd_c chJ1_charAt_3b067_0_07 (j := 2) rfl rfl)
theorem dJ1_charAt_3b067_3 : decode cJ1_charAt_3b067 3 = .ok (.invokestatic 9, 3) := dk184 (rd_c chJ1_charAt_3b067_0_07 (j := 3) rfl rfl) (rd_c chJ1_charAt_3b067_0_07 (j := 4) rfl rfl) (rd_c chJ1_charAt_3b067_0_07 (j := 5) rfl rfl) rfl
theorem dJ1_charAt_3b067_6 : decode cJ1_charAt_3b067 6 = .ok (.aload_n 0, 1) := dk42 (rd_c chJ1_charAt_3b067_0_07 (j := 6) rfl rfl)
theorem dJ1_charAt_3b067_7 : decode cJ1_charAt_3b067 7 = .ok (.iload_n 1, 1) := dk27 (rd_c chJ1_charAt_3b067_0_07 (j := 7) rfl rfl)
theorem dJ1_charAt_3b067_8 : decode cJ1_charAt_3b067 8 = .ok (.baload, 1) := dk51 (rd_c chJ1_charAt_3b067_0_07 (j := 8) rfl rfl)
theorem dJ1_charAt_3b067_9 : decode cJ1_charAt_3b067 9 = .ok (.sipush 255, 3) := dk17 (rd_c chJ1_charAt_3b067_0_07 (j := 9) rfl rfl) (rd_c chJ1_charAt_3b067_0_07 (j := 10) rfl rfl) (rd_c chJ1_charAt_3b067_0_07 (j := 11) rfl rfl) rfl
theorem dJ1_charAt_3b067_12 : decode cJ1_charAt_3b067 12 = .ok (.iand, 1) := dk126 (rd_c chJ1_charAt_3b067_0_07 (j := 12) rfl rfl)
theorem dJ1_charAt_3b067_13 : decode cJ1_charAt_3b067 13 = .ok (.i2c, 1) := dk146 (rd_c chJ1_charAt_3b067_0_07 (j := 13) rfl rfl)
theorem dJ1_charAt_3b067_14 : decode cJ1_charAt_3b067 14 = .ok (.ireturn, 1) := dk172 (rd_c chJ1_charAt_3b067_0_07 (j := 14) rfl rfl)
set_option maxRecDepth 20000 in
theorem ggJ2_getChar_3b067_J2_length_9d52b : GoodIn wsJ2_getChar_3b067 wsJ2_length_9d52b := goodIn_sub (show ∀ w ∈ wsJ2_length_9d52b, w ∈ wsJ2_getChar_3b067 from (List.forall_mem_cons.mpr ⟨List.mem_cons_of_mem _ (List.mem_of_getElem? (i := 6) rfl), (fun _ h => absurd h List.not_mem_nil)⟩)) (by decide +kernel)
set_option maxRecDepth 20000 in
theorem gJ2_getChar_3b067_J2_length_9d52b : GoodIn wsJ2_getChar_3b067 (va_wsS RJ2 48 yJ2_length_9d52b wsJ2_length_9d52b) := goodIn_app (goodIn_sub (List.forall_mem_cons.mpr ⟨List.mem_cons_of_mem _ (List.mem_of_getElem? (i := 3) rfl), (List.forall_mem_cons.mpr ⟨List.mem_cons_of_mem _ (List.mem_of_getElem? (i := 4) rfl), (List.forall_mem_cons.mpr ⟨List.mem_cons_of_mem _ (List.mem_of_getElem? (i := 5) rfl), (fun _ h => absurd h List.not_mem_nil)⟩)⟩)⟩) (by decide +kernel)) ggJ2_getChar_3b067_J2_length_9d52b
theorem chJ2_getChar_3b067_0_07 : ((cJ2_getChar_3b067.data.toList.drop 0).take 16).map UInt8.toNat = [178, 0, 44, 154, 0, 25, 27, 155, 0, 11, 27, 42, 184, 0, 48, 161] := by decide +kernel
theorem dJ2_getChar_3b067_0 : decode cJ2_getChar_3b067 0 = .ok (.getstatic 44, 3) := dk178 (rd_c chJ2_getChar_3b067_0_07 (j := 0) rfl rfl) (rd_c chJ2_getChar_3b067_0_07 (j := 1) rfl rfl) (rd_c chJ2_getChar_3b067_0_07 (j := 2) rfl rfl) rfl
theorem dJ2_getChar_3b067_3 : decode cJ2_getChar_3b067 3 = .ok (.ifCond .ne 25, 3) := dk154 (rd_c chJ2_getChar_3b067_0_07 (j := 3) rfl rfl) (rd_c chJ2_getChar_3b067_0_07 (j := 4) rfl rfl) (rd_c chJ2_getChar_3b067_0_07 (j := 5) rfl rfl) rfl
theorem dJ2_getChar_3b067_6 : decode cJ2_getChar_3b067 6 = .ok (.iload_n 1, 1) := dk27 (rd_c chJ2_getChar_3b067_0_07 (j := 6) rfl rfl)
theorem dJ2_getChar_3b067_7 : decode cJ2_getChar_3b067 7 = .ok (.ifCond .lt 11, 3) := dk155 (rd_c chJ2_getChar_3b067_0_07 (j := 7) rfl rfl) (rd_c chJ2_getChar_3b067_0_07 (j := 8) rfl rfl) (rd_c chJ2_getChar_3b067_0_07 (j := 9) rfl rfl) rfl
theorem dJ2_getChar_3b067_10 : decode cJ2_getChar_3b067 10 = .ok (.iload_n 1, 1) := dk27 (rd_c chJ2_getChar_3b067_0_07 (j := 10) rfl rfl)
theorem dJ2_getChar_3b067_11 : decode cJ2_getChar_3b067 11 = .ok (.aload_n 0, 1) := dk42 (rd_c chJ2_getChar_3b067_0_07 (j := 11) rfl rfl)
theorem dJ2_getChar_3b067_12 : decode cJ2_getChar_3b067 12 = .ok (.invokestatic 48, 3) := dk184 (rd_c chJ2_getChar_3b067_0_07 (j := 12) rfl rfl) (rd_c chJ2_getChar_3b067_0_07 (j := 13) rfl rfl) (rd_c chJ2_getChar_3b067_0_07 (j := 14) rfl rfl) rfl
theorem chJ2_getChar_3b067_1_07 : ((cJ2_getChar_3b067.data.toList.drop 16).take 16).map UInt8.toNat = [0, 13, 187, 0, 52, 89, 18, 54, 183, 0, 56, 191, 27, 4, 120, 60] := by decide +kernel
theorem dJ2_getChar_3b067_15 : decode cJ2_getChar_3b067 15 = .ok (.if_icmp .lt 13, 3) := dk161 (rd_c chJ2_getChar_3b067_0_07 (j := 15) rfl rfl) (rd_c chJ2_getChar_3b067_1_07 (j := 0) rfl rfl) (rd_c chJ2_getChar_3b067_1_07 (j := 1) rfl rfl) rfl
theorem dJ2_getChar_3b067_18 : decode cJ2_getChar_3b067 18 = .ok (.new 52, 3) := dk187 (rd_c chJ2_getChar_3b067_1_07 (j := 2) rfl rfl) (rd_c chJ2_getChar_3b067_1_07 (j := 3) rfl rfl) (rd_c chJ2_getChar_3b067_1_07 (j := 4) rfl rfl) rfl
theorem dJ2_getChar_3b067_21 : decode cJ2_getChar_3b067 21 = .ok (.dup, 1) := dk89 (rd_c chJ2_getChar_3b067_1_07 (j := 5) rfl rfl)
theorem dJ2_getChar_3b067_22 : decode cJ2_getChar_3b067 22 = .ok (.ldc 54, 2) := dk18 (rd_c chJ2_getChar_3b067_1_07 (j := 6) rfl rfl) (rd_c chJ2_getChar_3b067_1_07 (j := 7) rfl rfl)
theorem dJ2_getChar_3b067_24 : decode cJ2_getChar_3b067 24 = .ok (.invokespecial 56, 3) := dk183 (rd_c chJ2_getChar_3b067_1_07 (j := 8) rfl rfl) (rd_c chJ2_getChar_3b067_1_07 (j := 9) rfl rfl) (rd_c chJ2_getChar_3b067_1_07 (j := 10) rfl rfl) rfl
theorem dJ2_getChar_3b067_27 : decode cJ2_getChar_3b067 27 = .ok (.athrow, 1) := dk191 (rd_c chJ2_getChar_3b067_1_07 (j := 11) rfl rfl)
theorem dJ2_getChar_3b067_28 : decode cJ2_getChar_3b067 28 = .ok (.iload_n 1, 1) := dk27 (rd_c chJ2_getChar_3b067_1_07 (j := 12) rfl rfl)
theorem dJ2_getChar_3b067_29 : decode cJ2_getChar_3b067 29 = .ok (.iconst 1, 1) := dk4 (rd_c chJ2_getChar_3b067_1_07 (j := 13) rfl rfl)
theorem dJ2_getChar_3b067_30 : decode cJ2_getChar_3b067 30 = .ok (.ishl, 1) := dk120 (rd_c chJ2_getChar_3b067_1_07 (j := 14) rfl rfl)
theorem dJ2_getChar_3b067_31 : decode cJ2_getChar_3b067 31 = .ok (.istore_n 1, 1) := dk60 (rd_c chJ2_getChar_3b067_1_07 (j := 15) rfl rfl)
theorem chJ2_getChar_3b067_2_07 : ((cJ2_getChar_3b067.data.toList.drop 32).take 16).map UInt8.toNat = [42, 27, 132, 1, 1, 51, 17, 0, 255, 126, 178, 0, 59, 120, 42, 27] := by decide +kernel
theorem dJ2_getChar_3b067_32 : decode cJ2_getChar_3b067 32 = .ok (.aload_n 0, 1) := dk42 (rd_c chJ2_getChar_3b067_2_07 (j := 0) rfl rfl)
theorem dJ2_getChar_3b067_33 : decode cJ2_getChar_3b067 33 = .ok (.iload_n 1, 1) := dk27 (rd_c chJ2_getChar_3b067_2_07 (j := 1) rfl rfl)
theorem dJ2_getChar_3b067_34 : decode cJ2_getChar_3b067 34 = .ok (.iinc 1 1, 3) := dk132 (rd_c chJ2_getChar_3b067_2_07 (j := 2) rfl rfl) (rd_c chJ2_getChar_3b067_2_07 (j := 3) rfl rfl) (rd_c chJ2_getChar_3b067_2_07 (j := 4) rfl rfl) rfl
theorem dJ2_getChar_3b067_37 : decode cJ2_getChar_3b067 37 = .ok (.baload, 1) := dk51 (rd_c chJ2_getChar_3b067_2_07 (j := 5) rfl rfl)
theorem dJ2_getChar_3b067_38 : decode cJ2_getChar_3b067 38 = .ok (.sipush 255, 3) := dk17 (rd_c chJ2_getChar_3b067_2_07 (j := 6) rfl rfl) (rd_c chJ2_getChar_3b067_2_07 (j := 7) rfl rfl) (rd_c chJ2_getChar_3b067_2_07 (j := 8) rfl rfl) rfl
theorem dJ2_getChar_3b067_41 : decode cJ2_getChar_3b067 41 = .ok (.iand, 1) := dk126 (rd_c chJ2_getChar_3b067_2_07 (j := 9) rfl rfl)
theorem dJ2_getChar_3b067_42 : decode cJ2_getChar_3b067 42 = .ok (.getstatic 59, 3) := dk178 (rd_c chJ2_getChar_3b067_2_07 (j := 10) rfl rfl) (rd_c chJ2_getChar_3b067_2_07 (j := 11) rfl rfl) (rd_c chJ2_getChar_3b067_2_07 (j := 12) rfl rfl) rfl
theorem dJ2_getChar_3b067_45 : decode cJ2_getChar_3b067 45 = .ok (.ishl, 1) := dk120 (rd_c chJ2_getChar_3b067_2_07 (j := 13) rfl rfl)
theorem dJ2_getChar_3b067_46 : decode cJ2_getChar_3b067 46 = .ok (.aload_n 0, 1) := dk42 (rd_c chJ2_getChar_3b067_2_07 (j := 14) rfl rfl)
theorem dJ2_getChar_3b067_47 : decode cJ2_getChar_3b067 47 = .ok (.iload_n 1, 1) := dk27 (rd_c chJ2_getChar_3b067_2_07 (j := 15) rfl rfl)
theorem chJ2_getChar_3b067_3_07 : ((cJ2_getChar_3b067.data.toList.drop 48).take 16).map UInt8.toNat = [51, 17, 0, 255, 126, 178, 0, 63, 120, 128, 146, 172] := by decide +kernel
theorem dJ2_getChar_3b067_48 : decode cJ2_getChar_3b067 48 = .ok (.baload, 1) := dk51 (rd_c chJ2_getChar_3b067_3_07 (j := 0) rfl rfl)
theorem dJ2_getChar_3b067_49 : decode cJ2_getChar_3b067 49 = .ok (.sipush 255, 3) := dk17 (rd_c chJ2_getChar_3b067_3_07 (j := 1) rfl rfl) (rd_c chJ2_getChar_3b067_3_07 (j := 2) rfl rfl) (rd_c chJ2_getChar_3b067_3_07 (j := 3) rfl rfl) rfl
theorem dJ2_getChar_3b067_52 : decode cJ2_getChar_3b067 52 = .ok (.iand, 1) := dk126 (rd_c chJ2_getChar_3b067_3_07 (j := 4) rfl rfl)
theorem dJ2_getChar_3b067_53 : decode cJ2_getChar_3b067 53 = .ok (.getstatic 63, 3) := dk178 (rd_c chJ2_getChar_3b067_3_07 (j := 5) rfl rfl) (rd_c chJ2_getChar_3b067_3_07 (j := 6) rfl rfl) (rd_c chJ2_getChar_3b067_3_07 (j := 7) rfl rfl) rfl
theorem dJ2_getChar_3b067_56 : decode cJ2_getChar_3b067 56 = .ok (.ishl, 1) := dk120 (rd_c chJ2_getChar_3b067_3_07 (j := 8) rfl rfl)
theorem dJ2_getChar_3b067_57 : decode cJ2_getChar_3b067 57 = .ok (.ior, 1) := dk128 (rd_c chJ2_getChar_3b067_3_07 (j := 9) rfl rfl)
theorem dJ2_getChar_3b067_58 : decode cJ2_getChar_3b067 58 = .ok (.i2c, 1) := dk146 (rd_c chJ2_getChar_3b067_3_07 (j := 10) rfl rfl)
theorem dJ2_getChar_3b067_59 : decode cJ2_getChar_3b067 59 = .ok (.ireturn, 1) := dk172 (rd_c chJ2_getChar_3b067_3_07 (j := 11) rfl rfl)
theorem chJ2_length_9d52b_0_07 : ((cJ2_length_9d52b.data.toList.drop 0).take 16).map UInt8.toNat = [42, 190, 4, 122, 172] := by decide +kernel
theorem dJ2_length_9d52b_0 : decode cJ2_length_9d52b 0 = .ok (.aload_n 0, 1) := dk42 (rd_c chJ2_length_9d52b_0_07 (j := 0) rfl rfl)
theorem dJ2_length_9d52b_1 : decode cJ2_length_9d52b 1 = .ok (.arraylength, 1) := dk190 (rd_c chJ2_length_9d52b_0_07 (j := 1) rfl rfl)
theorem dJ2_length_9d52b_2 : decode cJ2_length_9d52b 2 = .ok (.iconst 1, 1) := dk4 (rd_c chJ2_length_9d52b_0_07 (j := 2) rfl rfl)
theorem dJ2_length_9d52b_3 : decode cJ2_length_9d52b 3 = .ok (.ishr, 1) := dk122 (rd_c chJ2_length_9d52b_0_07 (j := 3) rfl rfl)
theorem dJ2_length_9d52b_4 : decode cJ2_length_9d52b 4 = .ok (.ireturn, 1) := dk172 (rd_c chJ2_length_9d52b_0_07 (j := 4) rfl rfl)
set_option maxRecDepth 20000 in
theorem ggJ2_charAt_3b067_J2_checkIndex_2214a : GoodIn wsJ2_charAt_3b067 wsJ2_checkIndex_2214a := goodIn_sub (show ∀ w ∈ wsJ2_checkIndex_2214a, w ∈ wsJ2_charAt_3b067 from (List.forall_mem_cons.mpr ⟨List.mem_cons_of_mem _ (List.mem_of_getElem? (i := 3) rfl), (List.forall_mem_cons.mpr ⟨List.mem_cons_of_mem _ (List.mem_of_getElem? (i := 4) rfl), (List.forall_mem_cons.mpr ⟨List.mem_cons_of_mem _ (List.mem_of_getElem? (i := 5) rfl), (List.forall_mem_cons.mpr ⟨List.mem_cons_of_mem _ (List.mem_of_getElem? (i := 2) rfl), (List.forall_mem_cons.mpr ⟨List.mem_cons_of_mem _ (List.mem_of_getElem? (i := 6) rfl), (List.forall_mem_cons.mpr ⟨List.mem_cons_of_mem _ (List.mem_of_getElem? (i := 7) rfl), (List.forall_mem_cons.mpr ⟨List.mem_cons_of_mem _ (List.mem_of_getElem? (i := 8) rfl), (List.forall_mem_cons.mpr ⟨List.mem_cons_of_mem _ (List.mem_of_getElem? (i := 9) rfl), (List.forall_mem_cons.mpr ⟨List.mem_cons_of_mem _ (List.mem_of_getElem? (i := 10) rfl), (List.forall_mem_cons.mpr ⟨List.mem_cons_of_mem _ (List.mem_of_getElem? (i := 11) rfl), (List.forall_mem_cons.mpr ⟨List.mem_cons_of_mem _ (List.mem_of_getElem? (i := 12) rfl), (List.forall_mem_cons.mpr ⟨List.mem_cons_of_mem _ (List.mem_of_getElem? (i := 13) rfl), (List.forall_mem_cons.mpr ⟨List.mem_cons_of_mem _ (List.mem_of_getElem? (i := 14) rfl), (List.forall_mem_cons.mpr ⟨List.mem_cons_of_mem _ (List.mem_of_getElem? (i := 15) rfl), (fun _ h => absurd h List.not_mem_nil)⟩)⟩)⟩)⟩)⟩)⟩)⟩)⟩)⟩)⟩)⟩)⟩)⟩)⟩)) (by decide +kernel)
set_option maxRecDepth 20000 in
theorem gJ2_charAt_3b067_J2_checkIndex_2214a : GoodIn wsJ2_charAt_3b067 (va_wsS RJ2 67 yJ2_checkIndex_2214a wsJ2_checkIndex_2214a) := goodIn_app (goodIn_sub (List.forall_mem_cons.mpr ⟨List.mem_cons_of_mem _ (List.mem_of_getElem? (i := 0) rfl), (List.forall_mem_cons.mpr ⟨List.mem_cons_of_mem _ (List.mem_of_getElem? (i := 1) rfl), (List.forall_mem_cons.mpr ⟨List.mem_cons_of_mem _ (List.mem_of_getElem? (i := 2) rfl), (fun _ h => absurd h List.not_mem_nil)⟩)⟩)⟩) (by decide +kernel)) ggJ2_charAt_3b067_J2_checkIndex_2214a
set_option maxRecDepth 20000 in
theorem ggJ2_charAt_3b067_J2_getChar_3b067 : GoodIn wsJ2_charAt_3b067 wsJ2_getChar_3b067 := goodIn_sub (show ∀ w ∈ wsJ2_getChar_3b067, w ∈ wsJ2_charAt_3b067 from (List.forall_mem_cons.mpr ⟨List.mem_cons_of_mem _ (List.mem_of_getElem? (i := 18) rfl), (List.forall_mem_cons.mpr ⟨List.mem_cons_of_mem _ (List.mem_of_getElem? (i := 19) rfl), (List.forall_mem_cons.mpr ⟨List.mem_cons_of_mem _ (List.mem_of_getElem? (i := 20) rfl), (List.forall_mem_cons.mpr ⟨List.mem_cons_of_mem _ (List.mem_of_getElem? (i := 21) rfl), (List.forall_mem_cons.mpr ⟨List.mem_cons_of_mem _ (List.mem_of_getElem? (i := 4) rfl), (List.forall_mem_cons.mpr ⟨List.mem_cons_of_mem _ (List.mem_of_getElem? (i := 5) rfl), (List.forall_mem_cons.mpr ⟨List.mem_cons_of_mem _ (List.mem_of_getElem? (i := 2) rfl), (List.forall_mem_cons.mpr ⟨List.mem_cons_of_mem _ (List.mem_of_getElem? (i := 6) rfl), (fun _ h => absurd h List.not_mem_nil)⟩)⟩)⟩)⟩)⟩)⟩)⟩)⟩)) (by decide +kernel)
set_option maxRecDepth 20000 in
theorem gJ2_charAt_3b067_J2_getChar_3b067 : GoodIn wsJ2_charAt_3b067 (va_wsS RJ2 71 yJ2_getChar_3b067 wsJ2_getChar_3b067) := goodIn_app (goodIn_sub (List.forall_mem_cons.mpr ⟨List.mem_cons_of_mem _ (List.mem_of_getElem? (i := 16) rfl), (List.forall_mem_cons.mpr ⟨List.mem_cons_of_mem _ (List.mem_of_getElem? (i := 17) rfl), (List.forall_mem_cons.mpr ⟨List.mem_cons_of_mem _ (List.mem_of_getElem? (i := 2) rfl), (fun _ h => absurd h List.not_mem_nil)⟩)⟩)⟩) (by decide +kernel)) ggJ2_charAt_3b067_J2_getChar_3b067
theorem chJ2_charAt_3b067_0_07 : ((cJ2_charAt_3b067.data.toList.drop 0).take 16).map UInt8.toNat = [27, 42, 184, 0, 67, 42, 27, 184, 0, 71, 172] := by decide +kernel
theorem dJ2_charAt_3b067_0 : decode cJ2_charAt_3b067 0 = .ok (.iload_n 1, 1) := dk27 (rd_c chJ2_charAt_3b067_0_07 (j := 0) rfl rfl)
theorem dJ2_charAt_3b067_1 : decode cJ2_charAt_3b067 1 = .ok (.aload_n 0, 1) := dk42 (rd_c chJ2_charAt_3b067_0_07 (j := 1) rfl rfl)
theorem dJ2_charAt_3b067_2 : decode cJ2_charAt_3b067 2 = .ok (.invokestatic 67, 3) := dk184 (rd_c chJ2_charAt_3b067_0_07 (j := 2) rfl rfl) (rd_c chJ2_charAt_3b067_0_07 (j := 3) rfl rfl) (rd_c chJ2_charAt_3b067_0_07 (j := 4) rfl rfl) rfl
theorem dJ2_charAt_3b067_5 : decode cJ2_charAt_3b067 5 = .ok (.aload_n 0, 1) := dk42 (rd_c chJ2_charAt_3b067_0_07 (j := 5) rfl rfl)
theorem dJ2_charAt_3b067_6 : decode cJ2_charAt_3b067 6 = .ok (.iload_n 1, 1) := dk27 (rd_c chJ2_charAt_3b067_0_07 (j := 6) rfl rfl)
theorem dJ2_charAt_3b067_7 : decode cJ2_charAt_3b067 7 = .ok (.invokestatic 71, 3) := dk184 (rd_c chJ2_charAt_3b067_0_07 (j := 7) rfl rfl) (rd_c chJ2_charAt_3b067_0_07 (j := 8) rfl rfl) (rd_c chJ2_charAt_3b067_0_07 (j := 9) rfl rfl) rfl
theorem dJ2_charAt_3b067_10 : decode cJ2_charAt_3b067 10 = .ok (.ireturn, 1) := dk172 (rd_c chJ2_charAt_3b067_0_07 (j := 10) rfl rfl)
set_option maxRecDepth 20000 in
theorem ggJ2_checkIndex_2214a_J2_length_9d52b : GoodIn wsJ2_checkIndex_2214a wsJ2_length_9d52b := goodIn_sub (show ∀ w ∈ wsJ2_length_9d52b, w ∈ wsJ2_checkIndex_2214a from (List.forall_mem_cons.mpr ⟨List.mem_cons_of_mem _ (List.mem_of_getElem? (i := 3) rfl), (fun _ h => absurd h List.not_mem_nil)⟩)) (by decide +kernel)
set_option maxRecDepth 20000 in
theorem gJ2_checkIndex_2214a_J2_length_9d52b : GoodIn wsJ2_checkIndex_2214a (va_wsS RJ2 48 yJ2_length_9d52b wsJ2_length_9d52b) := goodIn_app (goodIn_sub (List.forall_mem_cons.mpr ⟨List.mem_cons_of_mem _ (List.mem_of_getElem? (i := 0) rfl), (List.forall_mem_cons.mpr ⟨List.mem_cons_of_mem _ (List.mem_of_getElem? (i := 1) rfl), (List.forall_mem_cons.mpr ⟨List.mem_cons_of_mem _ (List.mem_of_getElem? (i := 2) rfl), (fun _ h => absurd h List.not_mem_nil)⟩)⟩)⟩) (by decide +kernel)) ggJ2_checkIndex_2214a_J2_length_9d52b
set_option maxRecDepth 20000 in
theorem ggJ2_checkIndex_2214a_J0_checkIndex_df160 : GoodIn wsJ2_checkIndex_2214a wsJ0_checkIndex_df160 := goodIn_sub (show ∀ w ∈ wsJ0_checkIndex_df160, w ∈ wsJ2_checkIndex_2214a from (List.forall_mem_cons.mpr ⟨List.mem_cons_of_mem _ (List.mem_of_getElem? (i := 7) rfl), (List.forall_mem_cons.mpr ⟨List.mem_cons_of_mem _ (List.mem_of_getElem? (i := 8) rfl), (List.forall_mem_cons.mpr ⟨List.mem_cons_of_mem _ (List.mem_of_getElem? (i := 9) rfl), (List.forall_mem_cons.mpr ⟨List.mem_cons_of_mem _ (List.mem_of_getElem? (i := 10) rfl), (List.forall_mem_cons.mpr ⟨List.mem_cons_of_mem _ (List.mem_of_getElem? (i := 11) rfl), (List.forall_mem_cons.mpr ⟨List.mem_cons_of_mem _ (List.mem_of_getElem? (i := 12) rfl), (fun _ h => absurd h List.not_mem_nil)⟩)⟩)⟩)⟩)⟩)⟩)) (by decide +kernel)
set_option maxRecDepth 20000 in
theorem gJ2_checkIndex_2214a_J0_checkIndex_df160 : GoodIn wsJ2_checkIndex_2214a (va_wsS RJ2 414 yJ0_checkIndex_df160 wsJ0_checkIndex_df160) := goodIn_app (goodIn_sub (List.forall_mem_cons.mpr ⟨List.mem_cons_of_mem _ (List.mem_of_getElem? (i := 4) rfl), (List.forall_mem_cons.mpr ⟨List.mem_cons_of_mem _ (List.mem_of_getElem? (i := 5) rfl), (List.forall_mem_cons.mpr ⟨List.mem_cons_of_mem _ (List.mem_of_getElem? (i := 6) rfl), (fun _ h => absurd h List.not_mem_nil)⟩)⟩)⟩) (by decide +kernel)) ggJ2_checkIndex_2214a_J0_checkIndex_df160
theorem chJ2_checkIndex_2214a_0_07 : ((cJ2_checkIndex_2214a.data.toList.drop 0).take 16).map UInt8.toNat = [26, 43, 184, 0, 48, 184, 1, 158, 177] := by decide +kernel
theorem dJ2_checkIndex_2214a_0 : decode cJ2_checkIndex_2214a 0 = .ok (.iload_n 0, 1) := dk26 (rd_c chJ2_checkIndex_2214a_0_07 (j := 0) rfl rfl)
theorem dJ2_checkIndex_2214a_1 : decode cJ2_checkIndex_2214a 1 = .ok (.aload_n 1, 1) := dk43 (rd_c chJ2_checkIndex_2214a_0_07 (j := 1) rfl rfl)
theorem dJ2_checkIndex_2214a_2 : decode cJ2_checkIndex_2214a 2 = .ok (.invokestatic 48, 3) := dk184 (rd_c chJ2_checkIndex_2214a_0_07 (j := 2) rfl rfl) (rd_c chJ2_checkIndex_2214a_0_07 (j := 3) rfl rfl) (rd_c chJ2_checkIndex_2214a_0_07 (j := 4) rfl rfl) rfl
theorem dJ2_checkIndex_2214a_5 : decode cJ2_checkIndex_2214a 5 = .ok (.invokestatic 414, 3) := dk184 (rd_c chJ2_checkIndex_2214a_0_07 (j := 5) rfl rfl) (rd_c chJ2_checkIndex_2214a_0_07 (j := 6) rfl rfl) (rd_c chJ2_checkIndex_2214a_0_07 (j := 7) rfl rfl) rfl
theorem dJ2_checkIndex_2214a_8 : decode cJ2_checkIndex_2214a 8 = .ok (.return_, 1) := dk177 (rd_c chJ2_checkIndex_2214a_0_07 (j := 8) rfl rfl)
theorem chJ7_fill_d0a16_0_07 : ((cJ7_fill_d0a16.data.toList.drop 0).take 16).map UInt8.toNat = [3, 62, 42, 190, 54, 4, 29, 21, 4, 162, 0, 13, 42, 29, 31, 80] := by decide +kernel
theorem dJ7_fill_d0a16_0 : decode cJ7_fill_d0a16 0 = .ok (.iconst 0, 1) := dk3 (rd_c chJ7_fill_d0a16_0_07 (j := 0) rfl rfl)
theorem dJ7_fill_d0a16_1 : decode cJ7_fill_d0a16 1 = .ok (.istore_n 3, 1) := dk62 (rd_c chJ7_fill_d0a16_0_07 (j := 1) rfl rfl)
theorem dJ7_fill_d0a16_2 : decode cJ7_fill_d0a16 2 = .ok (.aload_n 0, 1) := dk42 (rd_c chJ7_fill_d0a16_0_07 (j := 2) rfl rfl)
theorem dJ7_fill_d0a16_3 : decode cJ7_fill_d0a16 3 = .ok (.arraylength, 1) := dk190 (rd_c chJ7_fill_d0a16_0_07 (j := 3) rfl rfl)
theorem dJ7_fill_d0a16_4 : decode cJ7_fill_d0a16 4 = .ok (.istore 4, 2) := dk54 (rd_c chJ7_fill_d0a16_0_07 (j := 4) rfl rfl) (rd_c chJ7_fill_d0a16_0_07 (j := 5) rfl rfl)
theorem dJ7_fill_d0a16_6 : decode cJ7_fill_d0a16 6 = .ok (.iload_n 3, 1) := dk29 (rd_c chJ7_fill_d0a16_0_07 (j := 6) rfl rfl)
theorem dJ7_fill_d0a16_7 : decode cJ7_fill_d0a16 7 = .ok (.iload 4, 2) := dk21 (rd_c chJ7_fill_d0a16_0_07 (j := 7) rfl rfl) (rd_c chJ7_fill_d0a16_0_07 (j := 8) rfl rfl)
theorem dJ7_fill_d0a16_9 : decode cJ7_fill_d0a16 9 = .ok (.if_icmp .ge 13, 3) := dk162 (rd_c chJ7_fill_d0a16_0_07 (j := 9) rfl rfl) (rd_c chJ7_fill_d0a16_0_07 (j := 10) rfl rfl) (rd_c chJ7_fill_d0a16_0_07 (j := 11) rfl rfl) rfl
theorem dJ7_fill_d0a16_12 : decode cJ7_fill_d0a16 12 = .ok (.aload_n 0, 1) := dk42 (rd_c chJ7_fill_d0a16_0_07 (j := 12) rfl rfl)
theorem dJ7_fill_d0a16_13 : decode cJ7_fill_d0a16 13 = .ok (.iload_n 3, 1) := dk29 (rd_c chJ7_fill_d0a16_0_07 (j := 13) rfl rfl)
theorem dJ7_fill_d0a16_14 : decode cJ7_fill_d0a16 14 = .ok (.lload_n 1, 1) := dk31 (rd_c chJ7_fill_d0a16_0_07 (j := 14) rfl rfl)
theorem dJ7_fill_d0a16_15 : decode cJ7_fill_d0a16 15 = .ok (.lastore, 1) := dk80 (rd_c chJ7_fill_d0a16_0_07 (j := 15) rfl rfl)
theorem chJ7_fill_d0a16_1_07 : ((cJ7_fill_d0a16.data.toList.drop 16).take 16).map UInt8.toNat = [132, 3, 1, 167, 255, 243, 177] := by decide +kernel
theorem dJ7_fill_d0a16_16 : decode cJ7_fill_d0a16 16 = .ok (.iinc 3 1, 3) := dk132 (rd_c chJ7_fill_d0a16_1_07 (j := 0) rfl rfl) (rd_c chJ7_fill_d0a16_1_07 (j := 1) rfl rfl) (rd_c chJ7_fill_d0a16_1_07 (j := 2) rfl rfl) rfl
theorem dJ7_fill_d0a16_19 : decode cJ7_fill_d0a16 19 = .ok (.goto (-13), 3) := dk167 (rd_c chJ7_fill_d0a16_1_07 (j := 3) rfl rfl) (rd_c chJ7_fill_d0a16_1_07 (j := 4) rfl rfl) (rd_c chJ7_fill_d0a16_1_07 (j := 5) rfl rfl) rfl
theorem dJ7_fill_d0a16_22 : decode cJ7_fill_d0a16 22 = .ok (.return_, 1) := dk177 (rd_c chJ7_fill_d0a16_1_07 (j := 6) rfl rfl)
theorem chJ7_fill_53178_0_07 : ((cJ7_fill_53178.data.toList.drop 0).take 16).map UInt8.toNat = [3, 61, 42, 190, 62, 28, 29, 162, 0, 13, 42, 28, 27, 79, 132, 2] := by decide +kernel
theorem dJ7_fill_53178_0 : decode cJ7_fill_53178 0 = .ok (.iconst 0, 1) := dk3 (rd_c chJ7_fill_53178_0_07 (j := 0) rfl rfl)
theorem dJ7_fill_53178_1 : decode cJ7_fill_53178 1 = .ok (.istore_n 2, 1) := dk61 (rd_c chJ7_fill_53178_0_07 (j := 1) rfl rfl)
theorem dJ7_fill_53178_2 : decode cJ7_fill_53178 2 = .ok (.aload_n 0, 1) := dk42 (rd_c chJ7_fill_53178_0_07 (j := 2) rfl rfl)
theorem dJ7_fill_53178_3 : decode cJ7_fill_53178 3 = .ok (.arraylength, 1) := dk190 (rd_c chJ7_fill_53178_0_07 (j := 3) rfl rfl)
theorem dJ7_fill_53178_4 : decode cJ7_fill_53178 4 = .ok (.istore_n 3, 1) := dk62 (rd_c chJ7_fill_53178_0_07 (j := 4) rfl rfl)
theorem dJ7_fill_53178_5 : decode cJ7_fill_53178 5 = .ok (.iload_n 2, 1) := dk28 (rd_c chJ7_fill_53178_0_07 (j := 5) rfl rfl)
theorem dJ7_fill_53178_6 : decode cJ7_fill_53178 6 = .ok (.iload_n 3, 1) := dk29 (rd_c chJ7_fill_53178_0_07 (j := 6) rfl rfl)
theorem dJ7_fill_53178_7 : decode cJ7_fill_53178 7 = .ok (.if_icmp .ge 13, 3) := dk162 (rd_c chJ7_fill_53178_0_07 (j := 7) rfl rfl) (rd_c chJ7_fill_53178_0_07 (j := 8) rfl rfl) (rd_c chJ7_fill_53178_0_07 (j := 9) rfl rfl) rfl
theorem dJ7_fill_53178_10 : decode cJ7_fill_53178 10 = .ok (.aload_n 0, 1) := dk42 (rd_c chJ7_fill_53178_0_07 (j := 10) rfl rfl)
theorem dJ7_fill_53178_11 : decode cJ7_fill_53178 11 = .ok (.iload_n 2, 1) := dk28 (rd_c chJ7_fill_53178_0_07 (j := 11) rfl rfl)
theorem dJ7_fill_53178_12 : decode cJ7_fill_53178 12 = .ok (.iload_n 1, 1) := dk27 (rd_c chJ7_fill_53178_0_07 (j := 12) rfl rfl)
theorem dJ7_fill_53178_13 : decode cJ7_fill_53178 13 = .ok (.iastore, 1) := dk79 (rd_c chJ7_fill_53178_0_07 (j := 13) rfl rfl)
theorem chJ7_fill_53178_1_07 : ((cJ7_fill_53178.data.toList.drop 16).take 16).map UInt8.toNat = [1, 167, 255, 244, 177] := by decide +kernel
theorem dJ7_fill_53178_14 : decode cJ7_fill_53178 14 = .ok (.iinc 2 1, 3) := dk132 (rd_c chJ7_fill_53178_0_07 (j := 14) rfl rfl) (rd_c chJ7_fill_53178_0_07 (j := 15) rfl rfl) (rd_c chJ7_fill_53178_1_07 (j := 0) rfl rfl) rfl
theorem dJ7_fill_53178_17 : decode cJ7_fill_53178 17 = .ok (.goto (-12), 3) := dk167 (rd_c chJ7_fill_53178_1_07 (j := 1) rfl rfl) (rd_c chJ7_fill_53178_1_07 (j := 2) rfl rfl) (rd_c chJ7_fill_53178_1_07 (j := 3) rfl rfl) rfl
theorem dJ7_fill_53178_20 : decode cJ7_fill_53178 20 = .ok (.return_, 1) := dk177 (rd_c chJ7_fill_53178_1_07 (j := 4) rfl rfl)
theorem chJ3_checkIndex_8e157_0_07 : ((cJ3_checkIndex_8e157.data.toList.drop 0).take 16).map UInt8.toNat = [26, 155, 0, 8, 26, 27, 161, 0, 10, 44, 26, 27, 184, 0, 95, 191] := by decide +kernel
theorem dJ3_checkIndex_8e157_0 : decode cJ3_checkIndex_8e157 0 = .ok (.iload_n 0, 1) := dk26 (rd_c chJ3_checkIndex_8e157_0_07 (j := 0) rfl rfl)
theorem dJ3_checkIndex_8e157_1 : decode cJ3_checkIndex_8e157 1 = .ok (.ifCond .lt 8, 3) := dk155 (rd_c chJ3_checkIndex_8e157_0_07 (j := 1) rfl rfl) (rd_c chJ3_checkIndex_8e157_0_07 (j := 2) rfl rfl) (rd_c chJ3_checkIndex_8e157_0_07 (j := 3) rfl rfl) rfl
theorem dJ3_checkIndex_8e157_4 : decode cJ3_checkIndex_8e157 4 = .ok (.iload_n 0, 1) := dk26 (rd_c chJ3_checkIndex_8e157_0_07 (j := 4) rfl rfl)
theorem dJ3_checkIndex_8e157_5 : decode cJ3_checkIndex_8e157 5 = .ok (.iload_n 1, 1) := dk27 (rd_c chJ3_checkIndex_8e157_0_07 (j := 5) rfl rfl)
theorem dJ3_checkIndex_8e157_6 : decode cJ3_checkIndex_8e157 6 = .ok (.if_icmp .lt 10, 3) := dk161 (rd_c chJ3_checkIndex_8e157_0_07 (j := 6) rfl rfl) (rd_c chJ3_checkIndex_8e157_0_07 (j := 7) rfl rfl) (rd_c chJ3_checkIndex_8e157_0_07 (j := 8) rfl rfl) rfl
theorem dJ3_checkIndex_8e157_9 : decode cJ3_checkIndex_8e157 9 = .ok (.aload_n 2, 1) := dk44 (rd_c chJ3_checkIndex_8e157_0_07 (j := 9) rfl rfl)
theorem dJ3_checkIndex_8e157_10 : decode cJ3_checkIndex_8e157 10 = .ok (.iload_n 0, 1) := dk26 (rd_c chJ3_checkIndex_8e157_0_07 (j := 10) rfl rfl)
theorem dJ3_checkIndex_8e157_11 : decode cJ3_checkIndex_8e157 11 = .ok (.iload_n 1, 1) := dk27 (rd_c chJ3_checkIndex_8e157_0_07 (j := 11) rfl rfl)
theorem dJ3_checkIndex_8e157_12 : decode cJ3_checkIndex_8e157 12 = .ok (.invokestatic 95, 3) := dk184 (rd_c chJ3_checkIndex_8e157_0_07 (j := 12) rfl rfl) (rd_c chJ3_checkIndex_8e157_0_07 (j := 13) rfl rfl) (rd_c chJ3_checkIndex_8e157_0_07 (j := 14) rfl rfl) rfl
theorem dJ3_checkIndex_8e157_15 : decode cJ3_checkIndex_8e157 15 = .ok (.athrow, 1) := dk191 (rd_c chJ3_checkIndex_8e157_0_07 (j := 15) rfl rfl)
theorem chJ3_checkIndex_8e157_1_07 : ((cJ3_checkIndex_8e157.data.toList.drop 16).take 16).map UInt8.toNat = [26, 172] := by decide +kernel
theorem dJ3_checkIndex_8e157_16 : decode cJ3_checkIndex_8e157 16 = .ok (.iload_n 0, 1) := dk26 (rd_c chJ3_checkIndex_8e157_1_07 (j := 0) rfl rfl)
theorem dJ3_checkIndex_8e157_17 : decode cJ3_checkIndex_8e157 17 = .ok (.ireturn, 1) := dk172 (rd_c chJ3_checkIndex_8e157_1_07 (j := 1) rfl rfl)
theorem chL_law_0_07 : ((cL_law.data.toList.drop 0).take 16).map UInt8.toNat = [187, 0, 7, 89, 183, 0, 9, 76, 187, 0, 10, 89, 183, 0, 12, 77] := by decide +kernel
theorem dL_law_0 : decode cL_law 0 = .ok (.new 7, 3) := dk187 (rd_c chL_law_0_07 (j := 0) rfl rfl) (rd_c chL_law_0_07 (j := 1) rfl rfl) (rd_c chL_law_0_07 (j := 2) rfl rfl) rfl
theorem dL_law_3 : decode cL_law 3 = .ok (.dup, 1) := dk89 (rd_c chL_law_0_07 (j := 3) rfl rfl)
theorem dL_law_4 : decode cL_law 4 = .ok (.invokespecial 9, 3) := dk183 (rd_c chL_law_0_07 (j := 4) rfl rfl) (rd_c chL_law_0_07 (j := 5) rfl rfl) (rd_c chL_law_0_07 (j := 6) rfl rfl) rfl
theorem dL_law_7 : decode cL_law 7 = .ok (.astore_n 1, 1) := dk76 (rd_c chL_law_0_07 (j := 7) rfl rfl)
theorem dL_law_8 : decode cL_law 8 = .ok (.new 10, 3) := dk187 (rd_c chL_law_0_07 (j := 8) rfl rfl) (rd_c chL_law_0_07 (j := 9) rfl rfl) (rd_c chL_law_0_07 (j := 10) rfl rfl) rfl
theorem dL_law_11 : decode cL_law 11 = .ok (.dup, 1) := dk89 (rd_c chL_law_0_07 (j := 11) rfl rfl)
theorem dL_law_12 : decode cL_law 12 = .ok (.invokespecial 12, 3) := dk183 (rd_c chL_law_0_07 (j := 12) rfl rfl) (rd_c chL_law_0_07 (j := 13) rfl rfl) (rd_c chL_law_0_07 (j := 14) rfl rfl) rfl
theorem dL_law_15 : decode cL_law 15 = .ok (.astore_n 2, 1) := dk77 (rd_c chL_law_0_07 (j := 15) rfl rfl)
theorem chL_law_1_07 : ((cL_law.data.toList.drop 16).take 16).map UInt8.toNat = [3, 62, 29, 42, 190, 16, 7, 100, 163, 3, 170, 42, 29, 46, 16, 31] := by decide +kernel
theorem dL_law_16 : decode cL_law 16 = .ok (.iconst 0, 1) := dk3 (rd_c chL_law_1_07 (j := 0) rfl rfl)
theorem dL_law_17 : decode cL_law 17 = .ok (.istore_n 3, 1) := dk62 (rd_c chL_law_1_07 (j := 1) rfl rfl)
theorem dL_law_18 : decode cL_law 18 = .ok (.iload_n 3, 1) := dk29 (rd_c chL_law_1_07 (j := 2) rfl rfl)
theorem dL_law_19 : decode cL_law 19 = .ok (.aload_n 0, 1) := dk42 (rd_c chL_law_1_07 (j := 3) rfl rfl)
theorem dL_law_20 : decode cL_law 20 = .ok (.arraylength, 1) := dk190 (rd_c chL_law_1_07 (j := 4) rfl rfl)
theorem dL_law_21 : decode cL_law 21 = .ok (.bipush 7, 2) := dk16 (rd_c chL_law_1_07 (j := 5) rfl rfl) (rd_c chL_law_1_07 (j := 6) rfl rfl) rfl
theorem dL_law_23 : decode cL_law 23 = .ok (.isub, 1) := dk100 (rd_c chL_law_1_07 (j := 7) rfl rfl)
theorem dL_law_24 : decode cL_law 24 = .ok (.if_icmp .gt 938, 3) := dk163 (rd_c chL_law_1_07 (j := 8) rfl rfl) (rd_c chL_law_1_07 (j := 9) rfl rfl) (rd_c chL_law_1_07 (j := 10) rfl rfl) rfl
theorem dL_law_27 : decode cL_law 27 = .ok (.aload_n 0, 1) := dk42 (rd_c chL_law_1_07 (j := 11) rfl rfl)
theorem dL_law_28 : decode cL_law 28 = .ok (.iload_n 3, 1) := dk29 (rd_c chL_law_1_07 (j := 12) rfl rfl)
theorem dL_law_29 : decode cL_law 29 = .ok (.iaload, 1) := dk46 (rd_c chL_law_1_07 (j := 13) rfl rfl)
theorem dL_law_30 : decode cL_law 30 = .ok (.bipush 31, 2) := dk16 (rd_c chL_law_1_07 (j := 14) rfl rfl) (rd_c chL_law_1_07 (j := 15) rfl rfl) rfl
theorem chL_law_2_07 : ((cL_law.data.toList.drop 32).take 16).map UInt8.toNat = [126, 170, 0, 0, 0, 0, 3, 155, 0, 0, 0, 0, 0, 0, 0, 21] := by decide +kernel
theorem dL_law_32 : decode cL_law 32 = .ok (.iand, 1) := dk126 (rd_c chL_law_2_07 (j := 0) rfl rfl)
theorem dL_law_33 : decode cL_law 33 = .ok (.tableswitch 923 0 21 #[103, 126, 195, 238, 291, 334, 367, 390, 433, 496, 519, 542, 555, 646, 679, 712, 745, 788, 811, 844, 867, 900], 103) := by decide +kernel
theorem chL_law_8_07 : ((cL_law.data.toList.drop 128).take 16).map UInt8.toNat = [0, 0, 3, 99, 0, 0, 3, 132, 43, 42, 29, 4, 96, 46, 182, 0] := by decide +kernel
theorem dL_law_136 : decode cL_law 136 = .ok (.aload_n 1, 1) := dk43 (rd_c chL_law_8_07 (j := 8) rfl rfl)
theorem dL_law_137 : decode cL_law 137 = .ok (.aload_n 0, 1) := dk42 (rd_c chL_law_8_07 (j := 9) rfl rfl)
theorem dL_law_138 : decode cL_law 138 = .ok (.iload_n 3, 1) := dk29 (rd_c chL_law_8_07 (j := 10) rfl rfl)
theorem dL_law_139 : decode cL_law 139 = .ok (.iconst 1, 1) := dk4 (rd_c chL_law_8_07 (j := 11) rfl rfl)
theorem dL_law_140 : decode cL_law 140 = .ok (.iadd, 1) := dk96 (rd_c chL_law_8_07 (j := 12) rfl rfl)
theorem dL_law_141 : decode cL_law 141 = .ok (.iaload, 1) := dk46 (rd_c chL_law_8_07 (j := 13) rfl rfl)
theorem chL_law_9_07 : ((cL_law.data.toList.drop 144).take 16).map UInt8.toNat = [13, 87, 44, 42, 29, 4, 96, 46, 182, 0, 17, 87, 167, 3, 32, 43] := by decide +kernel
theorem dL_law_142 : decode cL_law 142 = .ok (.invokevirtual 13, 3) := dk182 (rd_c chL_law_8_07 (j := 14) rfl rfl) (rd_c chL_law_8_07 (j := 15) rfl rfl) (rd_c chL_law_9_07 (j := 0) rfl rfl) rfl
theorem dL_law_145 : decode cL_law 145 = .ok (.pop, 1) := dk87 (rd_c chL_law_9_07 (j := 1) rfl rfl)
theorem dL_law_146 : decode cL_law 146 = .ok (.aload_n 2, 1) := dk44 (rd_c chL_law_9_07 (j := 2) rfl rfl)
theorem dL_law_147 : decode cL_law 147 = .ok (.aload_n 0, 1) := dk42 (rd_c chL_law_9_07 (j := 3) rfl rfl)
theorem dL_law_148 : decode cL_law 148 = .ok (.iload_n 3, 1) := dk29 (rd_c chL_law_9_07 (j := 4) rfl rfl)
theorem dL_law_149 : decode cL_law 149 = .ok (.iconst 1, 1) := dk4 (rd_c chL_law_9_07 (j := 5) rfl rfl)
theorem dL_law_150 : decode cL_law 150 = .ok (.iadd, 1) := dk96 (rd_c chL_law_9_07 (j := 6) rfl rfl)
theorem dL_law_151 : decode cL_law 151 = .ok (.iaload, 1) := dk46 (rd_c chL_law_9_07 (j := 7) rfl rfl)
theorem dL_law_152 : decode cL_law 152 = .ok (.invokevirtual 17, 3) := dk182 (rd_c chL_law_9_07 (j := 8) rfl rfl) (rd_c chL_law_9_07 (j := 9) rfl rfl) (rd_c chL_law_9_07 (j := 10) rfl rfl) rfl
theorem dL_law_155 : decode cL_law 155 = .ok (.pop, 1) := dk87 (rd_c chL_law_9_07 (j := 11) rfl rfl)
theorem dL_law_156 : decode cL_law 156 = .ok (.goto 800, 3) := dk167 (rd_c chL_law_9_07 (j := 12) rfl rfl) (rd_c chL_law_9_07 (j := 13) rfl rfl) (rd_c chL_law_9_07 (j := 14) rfl rfl) rfl
theorem dL_law_159 : decode cL_law 159 = .ok (.aload_n 1, 1) := dk43 (rd_c chL_law_9_07 (j := 15) rfl rfl)
theorem chL_law_10_07 : ((cL_law.data.toList.drop 160).take 16).map UInt8.toNat = [42, 29, 4, 96, 46, 42, 29, 5, 96, 46, 42, 29, 6, 96, 46, 153] := by decide +kernel
theorem dL_law_160 : decode cL_law 160 = .ok (.aload_n 0, 1) := dk42 (rd_c chL_law_10_07 (j := 0) rfl rfl)
theorem dL_law_161 : decode cL_law 161 = .ok (.iload_n 3, 1) := dk29 (rd_c chL_law_10_07 (j := 1) rfl rfl)
theorem dL_law_162 : decode cL_law 162 = .ok (.iconst 1, 1) := dk4 (rd_c chL_law_10_07 (j := 2) rfl rfl)
theorem dL_law_163 : decode cL_law 163 = .ok (.iadd, 1) := dk96 (rd_c chL_law_10_07 (j := 3) rfl rfl)
theorem dL_law_164 : decode cL_law 164 = .ok (.iaload, 1) := dk46 (rd_c chL_law_10_07 (j := 4) rfl rfl)
theorem dL_law_165 : decode cL_law 165 = .ok (.aload_n 0, 1) := dk42 (rd_c chL_law_10_07 (j := 5) rfl rfl)
theorem dL_law_166 : decode cL_law 166 = .ok (.iload_n 3, 1) := dk29 (rd_c chL_law_10_07 (j := 6) rfl rfl)
theorem dL_law_167 : decode cL_law 167 = .ok (.iconst 2, 1) := dk5 (rd_c chL_law_10_07 (j := 7) rfl rfl)
theorem dL_law_168 : decode cL_law 168 = .ok (.iadd, 1) := dk96 (rd_c chL_law_10_07 (j := 8) rfl rfl)
theorem dL_law_169 : decode cL_law 169 = .ok (.iaload, 1) := dk46 (rd_c chL_law_10_07 (j := 9) rfl rfl)
theorem dL_law_170 : decode cL_law 170 = .ok (.aload_n 0, 1) := dk42 (rd_c chL_law_10_07 (j := 10) rfl rfl)
theorem dL_law_171 : decode cL_law 171 = .ok (.iload_n 3, 1) := dk29 (rd_c chL_law_10_07 (j := 11) rfl rfl)
theorem dL_law_172 : decode cL_law 172 = .ok (.iconst 3, 1) := dk6 (rd_c chL_law_10_07 (j := 12) rfl rfl)
theorem dL_law_173 : decode cL_law 173 = .ok (.iadd, 1) := dk96 (rd_c chL_law_10_07 (j := 13) rfl rfl)
theorem dL_law_174 : decode cL_law 174 = .ok (.iaload, 1) := dk46 (rd_c chL_law_10_07 (j := 14) rfl rfl)
theorem chL_law_11_07 : ((cL_law.data.toList.drop 176).take 16).map UInt8.toNat = [0, 7, 4, 167, 0, 4, 3, 42, 29, 7, 96, 46, 182, 0, 18, 87] := by decide +kernel
theorem dL_law_175 : decode cL_law 175 = .ok (.ifCond .eq 7, 3) := dk153 (rd_c chL_law_10_07 (j := 15) rfl rfl) (rd_c chL_law_11_07 (j := 0) rfl rfl) (rd_c chL_law_11_07 (j := 1) rfl rfl) rfl
theorem dL_law_178 : decode cL_law 178 = .ok (.iconst 1, 1) := dk4 (rd_c chL_law_11_07 (j := 2) rfl rfl)
theorem dL_law_179 : decode cL_law 179 = .ok (.goto 4, 3) := dk167 (rd_c chL_law_11_07 (j := 3) rfl rfl) (rd_c chL_law_11_07 (j := 4) rfl rfl) (rd_c chL_law_11_07 (j := 5) rfl rfl) rfl
theorem dL_law_182 : decode cL_law 182 = .ok (.iconst 0, 1) := dk3 (rd_c chL_law_11_07 (j := 6) rfl rfl)
theorem dL_law_183 : decode cL_law 183 = .ok (.aload_n 0, 1) := dk42 (rd_c chL_law_11_07 (j := 7) rfl rfl)
theorem dL_law_184 : decode cL_law 184 = .ok (.iload_n 3, 1) := dk29 (rd_c chL_law_11_07 (j := 8) rfl rfl)
theorem dL_law_185 : decode cL_law 185 = .ok (.iconst 4, 1) := dk7 (rd_c chL_law_11_07 (j := 9) rfl rfl)
theorem dL_law_186 : decode cL_law 186 = .ok (.iadd, 1) := dk96 (rd_c chL_law_11_07 (j := 10) rfl rfl)
theorem dL_law_187 : decode cL_law 187 = .ok (.iaload, 1) := dk46 (rd_c chL_law_11_07 (j := 11) rfl rfl)
theorem dL_law_188 : decode cL_law 188 = .ok (.invokevirtual 18, 3) := dk182 (rd_c chL_law_11_07 (j := 12) rfl rfl) (rd_c chL_law_11_07 (j := 13) rfl rfl) (rd_c chL_law_11_07 (j := 14) rfl rfl) rfl
theorem dL_law_191 : decode cL_law 191 = .ok (.pop, 1) := dk87 (rd_c chL_law_11_07 (j := 15) rfl rfl)
theorem chL_law_12_07 : ((cL_law.data.toList.drop 192).take 16).map UInt8.toNat = [44, 42, 29, 4, 96, 46, 42, 29, 5, 96, 46, 42, 29, 6, 96, 46] := by decide +kernel
theorem dL_law_192 : decode cL_law 192 = .ok (.aload_n 2, 1) := dk44 (rd_c chL_law_12_07 (j := 0) rfl rfl)
theorem dL_law_193 : decode cL_law 193 = .ok (.aload_n 0, 1) := dk42 (rd_c chL_law_12_07 (j := 1) rfl rfl)
theorem dL_law_194 : decode cL_law 194 = .ok (.iload_n 3, 1) := dk29 (rd_c chL_law_12_07 (j := 2) rfl rfl)
theorem dL_law_195 : decode cL_law 195 = .ok (.iconst 1, 1) := dk4 (rd_c chL_law_12_07 (j := 3) rfl rfl)
theorem dL_law_196 : decode cL_law 196 = .ok (.iadd, 1) := dk96 (rd_c chL_law_12_07 (j := 4) rfl rfl)
theorem dL_law_197 : decode cL_law 197 = .ok (.iaload, 1) := dk46 (rd_c chL_law_12_07 (j := 5) rfl rfl)
theorem dL_law_198 : decode cL_law 198 = .ok (.aload_n 0, 1) := dk42 (rd_c chL_law_12_07 (j := 6) rfl rfl)
theorem dL_law_199 : decode cL_law 199 = .ok (.iload_n 3, 1) := dk29 (rd_c chL_law_12_07 (j := 7) rfl rfl)
theorem dL_law_200 : decode cL_law 200 = .ok (.iconst 2, 1) := dk5 (rd_c chL_law_12_07 (j := 8) rfl rfl)
theorem dL_law_201 : decode cL_law 201 = .ok (.iadd, 1) := dk96 (rd_c chL_law_12_07 (j := 9) rfl rfl)
theorem dL_law_202 : decode cL_law 202 = .ok (.iaload, 1) := dk46 (rd_c chL_law_12_07 (j := 10) rfl rfl)
theorem dL_law_203 : decode cL_law 203 = .ok (.aload_n 0, 1) := dk42 (rd_c chL_law_12_07 (j := 11) rfl rfl)
theorem dL_law_204 : decode cL_law 204 = .ok (.iload_n 3, 1) := dk29 (rd_c chL_law_12_07 (j := 12) rfl rfl)
theorem dL_law_205 : decode cL_law 205 = .ok (.iconst 3, 1) := dk6 (rd_c chL_law_12_07 (j := 13) rfl rfl)
theorem dL_law_206 : decode cL_law 206 = .ok (.iadd, 1) := dk96 (rd_c chL_law_12_07 (j := 14) rfl rfl)
theorem dL_law_207 : decode cL_law 207 = .ok (.iaload, 1) := dk46 (rd_c chL_law_12_07 (j := 15) rfl rfl)
theorem chL_law_13_07 : ((cL_law.data.toList.drop 208).take 16).map UInt8.toNat = [153, 0, 7, 4, 167, 0, 4, 3, 42, 29, 7, 96, 46, 182, 0, 22] := by decide +kernel
theorem dL_law_208 : decode cL_law 208 = .ok (.ifCond .eq 7, 3) := dk153 (rd_c chL_law_13_07 (j := 0) rfl rfl) (rd_c chL_law_13_07 (j := 1) rfl rfl) (rd_c chL_law_13_07 (j := 2) rfl rfl) rfl
theorem dL_law_211 : decode cL_law 211 = .ok (.iconst 1, 1) := dk4 (rd_c chL_law_13_07 (j := 3) rfl rfl)
theorem dL_law_212 : decode cL_law 212 = .ok (.goto 4, 3) := dk167 (rd_c chL_law_13_07 (j := 4) rfl rfl) (rd_c chL_law_13_07 (j := 5) rfl rfl) (rd_c chL_law_13_07 (j := 6) rfl rfl) rfl
theorem dL_law_215 : decode cL_law 215 = .ok (.iconst 0, 1) := dk3 (rd_c chL_law_13_07 (j := 7) rfl rfl)
theorem dL_law_216 : decode cL_law 216 = .ok (.aload_n 0, 1) := dk42 (rd_c chL_law_13_07 (j := 8) rfl rfl)
theorem dL_law_217 : decode cL_law 217 = .ok (.iload_n 3, 1) := dk29 (rd_c chL_law_13_07 (j := 9) rfl rfl)
theorem dL_law_218 : decode cL_law 218 = .ok (.iconst 4, 1) := dk7 (rd_c chL_law_13_07 (j := 10) rfl rfl)
theorem dL_law_219 : decode cL_law 219 = .ok (.iadd, 1) := dk96 (rd_c chL_law_13_07 (j := 11) rfl rfl)
theorem dL_law_220 : decode cL_law 220 = .ok (.iaload, 1) := dk46 (rd_c chL_law_13_07 (j := 12) rfl rfl)
theorem dL_law_221 : decode cL_law 221 = .ok (.invokevirtual 22, 3) := dk182 (rd_c chL_law_13_07 (j := 13) rfl rfl) (rd_c chL_law_13_07 (j := 14) rfl rfl) (rd_c chL_law_13_07 (j := 15) rfl rfl) rfl
theorem chL_law_14_07 : ((cL_law.data.toList.drop 224).take 16).map UInt8.toNat = [87, 167, 2, 219, 43, 42, 29, 4, 96, 46, 42, 29, 5, 96, 46, 42] := by decide +kernel
theorem dL_law_224 : decode cL_law 224 = .ok (.pop, 1) := dk87 (rd_c chL_law_14_07 (j := 0) rfl rfl)
theorem dL_law_225 : decode cL_law 225 = .ok (.goto 731, 3) := dk167 (rd_c chL_law_14_07 (j := 1) rfl rfl) (rd_c chL_law_14_07 (j := 2) rfl rfl) (rd_c chL_law_14_07 (j := 3) rfl rfl) rfl
theorem dL_law_228 : decode cL_law 228 = .ok (.aload_n 1, 1) := dk43 (rd_c chL_law_14_07 (j := 4) rfl rfl)
theorem dL_law_229 : decode cL_law 229 = .ok (.aload_n 0, 1) := dk42 (rd_c chL_law_14_07 (j := 5) rfl rfl)
theorem dL_law_230 : decode cL_law 230 = .ok (.iload_n 3, 1) := dk29 (rd_c chL_law_14_07 (j := 6) rfl rfl)
theorem dL_law_231 : decode cL_law 231 = .ok (.iconst 1, 1) := dk4 (rd_c chL_law_14_07 (j := 7) rfl rfl)
theorem dL_law_232 : decode cL_law 232 = .ok (.iadd, 1) := dk96 (rd_c chL_law_14_07 (j := 8) rfl rfl)
theorem dL_law_233 : decode cL_law 233 = .ok (.iaload, 1) := dk46 (rd_c chL_law_14_07 (j := 9) rfl rfl)
theorem dL_law_234 : decode cL_law 234 = .ok (.aload_n 0, 1) := dk42 (rd_c chL_law_14_07 (j := 10) rfl rfl)
theorem dL_law_235 : decode cL_law 235 = .ok (.iload_n 3, 1) := dk29 (rd_c chL_law_14_07 (j := 11) rfl rfl)
theorem dL_law_236 : decode cL_law 236 = .ok (.iconst 2, 1) := dk5 (rd_c chL_law_14_07 (j := 12) rfl rfl)
theorem dL_law_237 : decode cL_law 237 = .ok (.iadd, 1) := dk96 (rd_c chL_law_14_07 (j := 13) rfl rfl)
theorem dL_law_238 : decode cL_law 238 = .ok (.iaload, 1) := dk46 (rd_c chL_law_14_07 (j := 14) rfl rfl)
theorem dL_law_239 : decode cL_law 239 = .ok (.aload_n 0, 1) := dk42 (rd_c chL_law_14_07 (j := 15) rfl rfl)
theorem chL_law_15_07 : ((cL_law.data.toList.drop 240).take 16).map UInt8.toNat = [29, 6, 96, 46, 182, 0, 23, 87, 44, 42, 29, 4, 96, 46, 42, 29] := by decide +kernel
theorem dL_law_240 : decode cL_law 240 = .ok (.iload_n 3, 1) := dk29 (rd_c chL_law_15_07 (j := 0) rfl rfl)
theorem dL_law_241 : decode cL_law 241 = .ok (.iconst 3, 1) := dk6 (rd_c chL_law_15_07 (j := 1) rfl rfl)
theorem dL_law_242 : decode cL_law 242 = .ok (.iadd, 1) := dk96 (rd_c chL_law_15_07 (j := 2) rfl rfl)
theorem dL_law_243 : decode cL_law 243 = .ok (.iaload, 1) := dk46 (rd_c chL_law_15_07 (j := 3) rfl rfl)
theorem dL_law_244 : decode cL_law 244 = .ok (.invokevirtual 23, 3) := dk182 (rd_c chL_law_15_07 (j := 4) rfl rfl) (rd_c chL_law_15_07 (j := 5) rfl rfl) (rd_c chL_law_15_07 (j := 6) rfl rfl) rfl
theorem dL_law_247 : decode cL_law 247 = .ok (.pop, 1) := dk87 (rd_c chL_law_15_07 (j := 7) rfl rfl)
theorem dL_law_248 : decode cL_law 248 = .ok (.aload_n 2, 1) := dk44 (rd_c chL_law_15_07 (j := 8) rfl rfl)
theorem dL_law_249 : decode cL_law 249 = .ok (.aload_n 0, 1) := dk42 (rd_c chL_law_15_07 (j := 9) rfl rfl)
theorem dL_law_250 : decode cL_law 250 = .ok (.iload_n 3, 1) := dk29 (rd_c chL_law_15_07 (j := 10) rfl rfl)
theorem dL_law_251 : decode cL_law 251 = .ok (.iconst 1, 1) := dk4 (rd_c chL_law_15_07 (j := 11) rfl rfl)
theorem dL_law_252 : decode cL_law 252 = .ok (.iadd, 1) := dk96 (rd_c chL_law_15_07 (j := 12) rfl rfl)
theorem dL_law_253 : decode cL_law 253 = .ok (.iaload, 1) := dk46 (rd_c chL_law_15_07 (j := 13) rfl rfl)
theorem dL_law_254 : decode cL_law 254 = .ok (.aload_n 0, 1) := dk42 (rd_c chL_law_15_07 (j := 14) rfl rfl)
theorem dL_law_255 : decode cL_law 255 = .ok (.iload_n 3, 1) := dk29 (rd_c chL_law_15_07 (j := 15) rfl rfl)
theorem chL_law_16_07 : ((cL_law.data.toList.drop 256).take 16).map UInt8.toNat = [5, 96, 46, 42, 29, 6, 96, 46, 182, 0, 27, 87, 167, 2, 176, 43] := by decide +kernel
theorem dL_law_256 : decode cL_law 256 = .ok (.iconst 2, 1) := dk5 (rd_c chL_law_16_07 (j := 0) rfl rfl)
theorem dL_law_257 : decode cL_law 257 = .ok (.iadd, 1) := dk96 (rd_c chL_law_16_07 (j := 1) rfl rfl)
theorem dL_law_258 : decode cL_law 258 = .ok (.iaload, 1) := dk46 (rd_c chL_law_16_07 (j := 2) rfl rfl)
theorem dL_law_259 : decode cL_law 259 = .ok (.aload_n 0, 1) := dk42 (rd_c chL_law_16_07 (j := 3) rfl rfl)
theorem dL_law_260 : decode cL_law 260 = .ok (.iload_n 3, 1) := dk29 (rd_c chL_law_16_07 (j := 4) rfl rfl)
theorem dL_law_261 : decode cL_law 261 = .ok (.iconst 3, 1) := dk6 (rd_c chL_law_16_07 (j := 5) rfl rfl)
theorem dL_law_262 : decode cL_law 262 = .ok (.iadd, 1) := dk96 (rd_c chL_law_16_07 (j := 6) rfl rfl)
theorem dL_law_263 : decode cL_law 263 = .ok (.iaload, 1) := dk46 (rd_c chL_law_16_07 (j := 7) rfl rfl)
theorem dL_law_264 : decode cL_law 264 = .ok (.invokevirtual 27, 3) := dk182 (rd_c chL_law_16_07 (j := 8) rfl rfl) (rd_c chL_law_16_07 (j := 9) rfl rfl) (rd_c chL_law_16_07 (j := 10) rfl rfl) rfl
theorem dL_law_267 : decode cL_law 267 = .ok (.pop, 1) := dk87 (rd_c chL_law_16_07 (j := 11) rfl rfl)
theorem dL_law_268 : decode cL_law 268 = .ok (.goto 688, 3) := dk167 (rd_c chL_law_16_07 (j := 12) rfl rfl) (rd_c chL_law_16_07 (j := 13) rfl rfl) (rd_c chL_law_16_07 (j := 14) rfl rfl) rfl
theorem dL_law_271 : decode cL_law 271 = .ok (.aload_n 1, 1) := dk43 (rd_c chL_law_16_07 (j := 15) rfl rfl)
theorem chL_law_17_07 : ((cL_law.data.toList.drop 272).take 16).map UInt8.toNat = [42, 29, 4, 96, 46, 42, 29, 5, 96, 46, 42, 29, 6, 96, 46, 42] := by decide +kernel
theorem dL_law_272 : decode cL_law 272 = .ok (.aload_n 0, 1) := dk42 (rd_c chL_law_17_07 (j := 0) rfl rfl)
theorem dL_law_273 : decode cL_law 273 = .ok (.iload_n 3, 1) := dk29 (rd_c chL_law_17_07 (j := 1) rfl rfl)
theorem dL_law_274 : decode cL_law 274 = .ok (.iconst 1, 1) := dk4 (rd_c chL_law_17_07 (j := 2) rfl rfl)
theorem dL_law_275 : decode cL_law 275 = .ok (.iadd, 1) := dk96 (rd_c chL_law_17_07 (j := 3) rfl rfl)
theorem dL_law_276 : decode cL_law 276 = .ok (.iaload, 1) := dk46 (rd_c chL_law_17_07 (j := 4) rfl rfl)
theorem dL_law_277 : decode cL_law 277 = .ok (.aload_n 0, 1) := dk42 (rd_c chL_law_17_07 (j := 5) rfl rfl)
theorem dL_law_278 : decode cL_law 278 = .ok (.iload_n 3, 1) := dk29 (rd_c chL_law_17_07 (j := 6) rfl rfl)
theorem dL_law_279 : decode cL_law 279 = .ok (.iconst 2, 1) := dk5 (rd_c chL_law_17_07 (j := 7) rfl rfl)
theorem dL_law_280 : decode cL_law 280 = .ok (.iadd, 1) := dk96 (rd_c chL_law_17_07 (j := 8) rfl rfl)
theorem dL_law_281 : decode cL_law 281 = .ok (.iaload, 1) := dk46 (rd_c chL_law_17_07 (j := 9) rfl rfl)
