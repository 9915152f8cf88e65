theorem chX11_init_27_04 : ((cX11_init.data.toList.drop 432).take 16).map UInt8.toNat = [180, 0, 11, 27, 50, 28, 18, 159, 79, 42, 180, 0, 14, 27, 50, 28] := by decide +kernel
theorem dX11_init_441 : decode cX11_init 441 = .ok (.aload_n 0, 1) := dk42 (rd_c chX11_init_27_04 (j := 9) rfl rfl)
theorem dX11_init_442 : decode cX11_init 442 = .ok (.getfield 14, 3) := dk180 (rd_c chX11_init_27_04 (j := 10) rfl rfl) (rd_c chX11_init_27_04 (j := 11) rfl rfl) (rd_c chX11_init_27_04 (j := 12) rfl rfl) rfl
theorem dX11_init_445 : decode cX11_init 445 = .ok (.iload_n 1, 1) := dk27 (rd_c chX11_init_27_04 (j := 13) rfl rfl)
theorem dX11_init_446 : decode cX11_init 446 = .ok (.aaload, 1) := dk50 (rd_c chX11_init_27_04 (j := 14) rfl rfl)
theorem dX11_init_447 : decode cX11_init 447 = .ok (.iload_n 2, 1) := dk28 (rd_c chX11_init_27_04 (j := 15) rfl rfl)
theorem chX11_init_28_04 : ((cX11_init.data.toList.drop 448).take 16).map UInt8.toNat = [18, 159, 79, 132, 2, 1, 167, 255, 227, 42, 180, 0, 21, 27, 17, 3] := by decide +kernel
theorem dX11_init_448 : decode cX11_init 448 = .ok (.ldc 159, 2) := dk18 (rd_c chX11_init_28_04 (j := 0) rfl rfl) (rd_c chX11_init_28_04 (j := 1) rfl rfl)
theorem dX11_init_450 : decode cX11_init 450 = .ok (.iastore, 1) := dk79 (rd_c chX11_init_28_04 (j := 2) rfl rfl)
theorem dX11_init_451 : decode cX11_init 451 = .ok (.iinc 2 1, 3) := dk132 (rd_c chX11_init_28_04 (j := 3) rfl rfl) (rd_c chX11_init_28_04 (j := 4) rfl rfl) (rd_c chX11_init_28_04 (j := 5) rfl rfl) rfl
theorem dX11_init_454 : decode cX11_init 454 = .ok (.goto (-29), 3) := dk167 (rd_c chX11_init_28_04 (j := 6) rfl rfl) (rd_c chX11_init_28_04 (j := 7) rfl rfl) (rd_c chX11_init_28_04 (j := 8) rfl rfl) rfl
theorem dX11_init_457 : decode cX11_init 457 = .ok (.aload_n 0, 1) := dk42 (rd_c chX11_init_28_04 (j := 9) rfl rfl)
theorem dX11_init_458 : decode cX11_init 458 = .ok (.getfield 21, 3) := dk180 (rd_c chX11_init_28_04 (j := 10) rfl rfl) (rd_c chX11_init_28_04 (j := 11) rfl rfl) (rd_c chX11_init_28_04 (j := 12) rfl rfl) rfl
theorem dX11_init_461 : decode cX11_init 461 = .ok (.iload_n 1, 1) := dk27 (rd_c chX11_init_28_04 (j := 13) rfl rfl)
theorem chX11_init_29_04 : ((cX11_init.data.toList.drop 464).take 16).map UInt8.toNat = [232, 79, 132, 1, 1, 167, 255, 204, 42, 182, 0, 160, 177] := by decide +kernel
theorem dX11_init_462 : decode cX11_init 462 = .ok (.sipush 1000, 3) := dk17 (rd_c chX11_init_28_04 (j := 14) rfl rfl) (rd_c chX11_init_28_04 (j := 15) rfl rfl) (rd_c chX11_init_29_04 (j := 0) rfl rfl) rfl
theorem dX11_init_465 : decode cX11_init 465 = .ok (.iastore, 1) := dk79 (rd_c chX11_init_29_04 (j := 1) rfl rfl)
theorem dX11_init_466 : decode cX11_init 466 = .ok (.iinc 1 1, 3) := dk132 (rd_c chX11_init_29_04 (j := 2) rfl rfl) (rd_c chX11_init_29_04 (j := 3) rfl rfl) (rd_c chX11_init_29_04 (j := 4) rfl rfl) rfl
theorem dX11_init_469 : decode cX11_init 469 = .ok (.goto (-52), 3) := dk167 (rd_c chX11_init_29_04 (j := 5) rfl rfl) (rd_c chX11_init_29_04 (j := 6) rfl rfl) (rd_c chX11_init_29_04 (j := 7) rfl rfl) rfl
theorem dX11_init_472 : decode cX11_init 472 = .ok (.aload_n 0, 1) := dk42 (rd_c chX11_init_29_04 (j := 8) rfl rfl)
theorem dX11_init_473 : decode cX11_init 473 = .ok (.invokevirtual 160, 3) := dk182 (rd_c chX11_init_29_04 (j := 9) rfl rfl) (rd_c chX11_init_29_04 (j := 10) rfl rfl) (rd_c chX11_init_29_04 (j := 11) rfl rfl) rfl
theorem dX11_init_476 : decode cX11_init 476 = .ok (.return_, 1) := dk177 (rd_c chX11_init_29_04 (j := 12) rfl rfl)
theorem chX11_in_0_04 : ((cX11_in.data.toList.drop 0).take 16).map UInt8.toNat = [26, 27, 161, 0, 12, 26, 28, 163, 0, 7, 4, 167, 0, 4, 3, 172] := by decide +kernel
theorem dX11_in_0 : decode cX11_in 0 = .ok (.iload_n 0, 1) := dk26 (rd_c chX11_in_0_04 (j := 0) rfl rfl)
theorem dX11_in_1 : decode cX11_in 1 = .ok (.iload_n 1, 1) := dk27 (rd_c chX11_in_0_04 (j := 1) rfl rfl)
theorem dX11_in_2 : decode cX11_in 2 = .ok (.if_icmp .lt 12, 3) := dk161 (rd_c chX11_in_0_04 (j := 2) rfl rfl) (rd_c chX11_in_0_04 (j := 3) rfl rfl) (rd_c chX11_in_0_04 (j := 4) rfl rfl) rfl
theorem dX11_in_5 : decode cX11_in 5 = .ok (.iload_n 0, 1) := dk26 (rd_c chX11_in_0_04 (j := 5) rfl rfl)
theorem dX11_in_6 : decode cX11_in 6 = .ok (.iload_n 2, 1) := dk28 (rd_c chX11_in_0_04 (j := 6) rfl rfl)
theorem dX11_in_7 : decode cX11_in 7 = .ok (.if_icmp .gt 7, 3) := dk163 (rd_c chX11_in_0_04 (j := 7) rfl rfl) (rd_c chX11_in_0_04 (j := 8) rfl rfl) (rd_c chX11_in_0_04 (j := 9) rfl rfl) rfl
theorem dX11_in_10 : decode cX11_in 10 = .ok (.iconst 1, 1) := dk4 (rd_c chX11_in_0_04 (j := 10) rfl rfl)
theorem dX11_in_11 : decode cX11_in 11 = .ok (.goto 4, 3) := dk167 (rd_c chX11_in_0_04 (j := 11) rfl rfl) (rd_c chX11_in_0_04 (j := 12) rfl rfl) (rd_c chX11_in_0_04 (j := 13) rfl rfl) rfl
theorem dX11_in_14 : decode cX11_in 14 = .ok (.iconst 0, 1) := dk3 (rd_c chX11_in_0_04 (j := 14) rfl rfl)
theorem dX11_in_15 : decode cX11_in 15 = .ok (.ireturn, 1) := dk172 (rd_c chX11_in_0_04 (j := 15) rfl rfl)
theorem chX11_isTown_0_04 : ((cX11_isTown.data.toList.drop 0).take 16).map UInt8.toNat = [26, 155, 0, 13, 26, 16, 12, 162, 0, 7, 4, 167, 0, 4, 3, 172] := by decide +kernel
theorem dX11_isTown_0 : decode cX11_isTown 0 = .ok (.iload_n 0, 1) := dk26 (rd_c chX11_isTown_0_04 (j := 0) rfl rfl)
theorem dX11_isTown_1 : decode cX11_isTown 1 = .ok (.ifCond .lt 13, 3) := dk155 (rd_c chX11_isTown_0_04 (j := 1) rfl rfl) (rd_c chX11_isTown_0_04 (j := 2) rfl rfl) (rd_c chX11_isTown_0_04 (j := 3) rfl rfl) rfl
theorem dX11_isTown_4 : decode cX11_isTown 4 = .ok (.iload_n 0, 1) := dk26 (rd_c chX11_isTown_0_04 (j := 4) rfl rfl)
theorem dX11_isTown_5 : decode cX11_isTown 5 = .ok (.bipush 12, 2) := dk16 (rd_c chX11_isTown_0_04 (j := 5) rfl rfl) (rd_c chX11_isTown_0_04 (j := 6) rfl rfl) rfl
theorem dX11_isTown_7 : decode cX11_isTown 7 = .ok (.if_icmp .ge 7, 3) := dk162 (rd_c chX11_isTown_0_04 (j := 7) rfl rfl) (rd_c chX11_isTown_0_04 (j := 8) rfl rfl) (rd_c chX11_isTown_0_04 (j := 9) rfl rfl) rfl
theorem dX11_isTown_10 : decode cX11_isTown 10 = .ok (.iconst 1, 1) := dk4 (rd_c chX11_isTown_0_04 (j := 10) rfl rfl)
theorem dX11_isTown_11 : decode cX11_isTown 11 = .ok (.goto 4, 3) := dk167 (rd_c chX11_isTown_0_04 (j := 11) rfl rfl) (rd_c chX11_isTown_0_04 (j := 12) rfl rfl) (rd_c chX11_isTown_0_04 (j := 13) rfl rfl) rfl
theorem dX11_isTown_14 : decode cX11_isTown 14 = .ok (.iconst 0, 1) := dk3 (rd_c chX11_isTown_0_04 (j := 14) rfl rfl)
theorem dX11_isTown_15 : decode cX11_isTown 15 = .ok (.ireturn, 1) := dk172 (rd_c chX11_isTown_0_04 (j := 15) rfl rfl)
set_option maxRecDepth 20000 in
theorem ggX11_clock_X11_in : GoodIn wsX11_clock wsX11_in := goodIn_sub (show ∀ w ∈ wsX11_in, w ∈ wsX11_clock from (List.forall_mem_cons.mpr ⟨List.mem_cons_of_mem _ (List.mem_append_left _ (List.mem_of_getElem? (i := 4) rfl)), (fun _ h => absurd h List.not_mem_nil)⟩)) (by decide +kernel)
set_option maxRecDepth 20000 in
theorem gX11_clock_X11_in : GoodIn wsX11_clock (va_wsS RX11 170 yX11_in wsX11_in) := goodIn_app (goodIn_sub (List.forall_mem_cons.mpr ⟨List.mem_cons_of_mem _ (List.mem_append_left _ (List.mem_of_getElem? (i := 1) rfl)), (List.forall_mem_cons.mpr ⟨List.mem_cons_of_mem _ (List.mem_append_left _ (List.mem_of_getElem? (i := 2) rfl)), (List.forall_mem_cons.mpr ⟨List.mem_cons_of_mem _ (List.mem_append_left _ (List.mem_of_getElem? (i := 3) rfl)), (fun _ h => absurd h List.not_mem_nil)⟩)⟩)⟩) (by decide +kernel)) ggX11_clock_X11_in
theorem chX11_clock_0_04 : ((cX11_clock.data.toList.drop 0).take 16).map UInt8.toNat = [27, 42, 180, 0, 167, 17, 11, 184, 184, 0, 170, 154, 0, 5, 3, 172] := by decide +kernel
theorem dX11_clock_0 : decode cX11_clock 0 = .ok (.iload_n 1, 1) := dk27 (rd_c chX11_clock_0_04 (j := 0) rfl rfl)
theorem dX11_clock_1 : decode cX11_clock 1 = .ok (.aload_n 0, 1) := dk42 (rd_c chX11_clock_0_04 (j := 1) rfl rfl)
theorem dX11_clock_2 : decode cX11_clock 2 = .ok (.getfield 167, 3) := dk180 (rd_c chX11_clock_0_04 (j := 2) rfl rfl) (rd_c chX11_clock_0_04 (j := 3) rfl rfl) (rd_c chX11_clock_0_04 (j := 4) rfl rfl) rfl
theorem dX11_clock_5 : decode cX11_clock 5 = .ok (.sipush 3000, 3) := dk17 (rd_c chX11_clock_0_04 (j := 5) rfl rfl) (rd_c chX11_clock_0_04 (j := 6) rfl rfl) (rd_c chX11_clock_0_04 (j := 7) rfl rfl) rfl
theorem dX11_clock_8 : decode cX11_clock 8 = .ok (.invokestatic 170, 3) := dk184 (rd_c chX11_clock_0_04 (j := 8) rfl rfl) (rd_c chX11_clock_0_04 (j := 9) rfl rfl) (rd_c chX11_clock_0_04 (j := 10) rfl rfl) rfl
theorem dX11_clock_11 : decode cX11_clock 11 = .ok (.ifCond .ne 5, 3) := dk154 (rd_c chX11_clock_0_04 (j := 11) rfl rfl) (rd_c chX11_clock_0_04 (j := 12) rfl rfl) (rd_c chX11_clock_0_04 (j := 13) rfl rfl) rfl
theorem dX11_clock_14 : decode cX11_clock 14 = .ok (.iconst 0, 1) := dk3 (rd_c chX11_clock_0_04 (j := 14) rfl rfl)
theorem dX11_clock_15 : decode cX11_clock 15 = .ok (.ireturn, 1) := dk172 (rd_c chX11_clock_0_04 (j := 15) rfl rfl)
theorem chX11_clock_1_04 : ((cX11_clock.data.toList.drop 16).take 16).map UInt8.toNat = [42, 27, 181, 0, 167, 4, 172] := by decide +kernel
theorem dX11_clock_16 : decode cX11_clock 16 = .ok (.aload_n 0, 1) := dk42 (rd_c chX11_clock_1_04 (j := 0) rfl rfl)
theorem dX11_clock_17 : decode cX11_clock 17 = .ok (.iload_n 1, 1) := dk27 (rd_c chX11_clock_1_04 (j := 1) rfl rfl)
theorem dX11_clock_18 : decode cX11_clock 18 = .ok (.putfield 167, 3) := dk181 (rd_c chX11_clock_1_04 (j := 2) rfl rfl) (rd_c chX11_clock_1_04 (j := 3) rfl rfl) (rd_c chX11_clock_1_04 (j := 4) rfl rfl) rfl
theorem dX11_clock_21 : decode cX11_clock 21 = .ok (.iconst 1, 1) := dk4 (rd_c chX11_clock_1_04 (j := 5) rfl rfl)
theorem dX11_clock_22 : decode cX11_clock 22 = .ok (.ireturn, 1) := dk172 (rd_c chX11_clock_1_04 (j := 6) rfl rfl)
set_option maxRecDepth 20000 in
theorem ggX11_way_X11_isTown : GoodIn wsX11_way wsX11_isTown := goodIn_sub (show ∀ w ∈ wsX11_isTown, w ∈ wsX11_way from (List.forall_mem_cons.mpr ⟨List.mem_cons_of_mem _ (List.mem_append_left _ (List.mem_of_getElem? (i := 5) rfl)), (fun _ h => absurd h List.not_mem_nil)⟩)) (by decide +kernel)
set_option maxRecDepth 20000 in
theorem gX11_way_X11_isTown : GoodIn wsX11_way (va_wsS RX11 174 yX11_isTown wsX11_isTown) := goodIn_app (goodIn_sub (List.forall_mem_cons.mpr ⟨List.mem_cons_of_mem _ (List.mem_append_left _ (List.mem_of_getElem? (i := 2) rfl)), (List.forall_mem_cons.mpr ⟨List.mem_cons_of_mem _ (List.mem_append_left _ (List.mem_of_getElem? (i := 3) rfl)), (List.forall_mem_cons.mpr ⟨List.mem_cons_of_mem _ (List.mem_append_left _ (List.mem_of_getElem? (i := 4) rfl)), (fun _ h => absurd h List.not_mem_nil)⟩)⟩)⟩) (by decide +kernel)) ggX11_way_X11_isTown
set_option maxRecDepth 20000 in
theorem ggX11_way_X11_in : GoodIn wsX11_way wsX11_in := goodIn_sub (show ∀ w ∈ wsX11_in, w ∈ wsX11_way from (List.forall_mem_cons.mpr ⟨List.mem_cons_of_mem _ (List.mem_append_left _ (List.mem_of_getElem? (i := 8) rfl)), (fun _ h => absurd h List.not_mem_nil)⟩)) (by decide +kernel)
set_option maxRecDepth 20000 in
theorem gX11_way_X11_in : GoodIn wsX11_way (va_wsS RX11 170 yX11_in wsX11_in) := goodIn_app (goodIn_sub (List.forall_mem_cons.mpr ⟨List.mem_cons_of_mem _ (List.mem_append_left _ (List.mem_of_getElem? (i := 6) rfl)), (List.forall_mem_cons.mpr ⟨List.mem_cons_of_mem _ (List.mem_append_left _ (List.mem_of_getElem? (i := 7) rfl)), (List.forall_mem_cons.mpr ⟨List.mem_cons_of_mem _ (List.mem_append_left _ (List.mem_of_getElem? (i := 4) rfl)), (fun _ h => absurd h List.not_mem_nil)⟩)⟩)⟩) (by decide +kernel)) ggX11_way_X11_in
theorem chX11_way_0_04 : ((cX11_way.data.toList.drop 0).take 16).map UInt8.toNat = [27, 184, 0, 174, 153, 0, 26, 28, 184, 0, 174, 153, 0, 19, 27, 28] := by decide +kernel
theorem dX11_way_0 : decode cX11_way 0 = .ok (.iload_n 1, 1) := dk27 (rd_c chX11_way_0_04 (j := 0) rfl rfl)
theorem dX11_way_1 : decode cX11_way 1 = .ok (.invokestatic 174, 3) := dk184 (rd_c chX11_way_0_04 (j := 1) rfl rfl) (rd_c chX11_way_0_04 (j := 2) rfl rfl) (rd_c chX11_way_0_04 (j := 3) rfl rfl) rfl
theorem dX11_way_4 : decode cX11_way 4 = .ok (.ifCond .eq 26, 3) := dk153 (rd_c chX11_way_0_04 (j := 4) rfl rfl) (rd_c chX11_way_0_04 (j := 5) rfl rfl) (rd_c chX11_way_0_04 (j := 6) rfl rfl) rfl
theorem dX11_way_7 : decode cX11_way 7 = .ok (.iload_n 2, 1) := dk28 (rd_c chX11_way_0_04 (j := 7) rfl rfl)
theorem dX11_way_8 : decode cX11_way 8 = .ok (.invokestatic 174, 3) := dk184 (rd_c chX11_way_0_04 (j := 8) rfl rfl) (rd_c chX11_way_0_04 (j := 9) rfl rfl) (rd_c chX11_way_0_04 (j := 10) rfl rfl) rfl
theorem dX11_way_11 : decode cX11_way 11 = .ok (.ifCond .eq 19, 3) := dk153 (rd_c chX11_way_0_04 (j := 11) rfl rfl) (rd_c chX11_way_0_04 (j := 12) rfl rfl) (rd_c chX11_way_0_04 (j := 13) rfl rfl) rfl
theorem dX11_way_14 : decode cX11_way 14 = .ok (.iload_n 1, 1) := dk27 (rd_c chX11_way_0_04 (j := 14) rfl rfl)
theorem dX11_way_15 : decode cX11_way 15 = .ok (.iload_n 2, 1) := dk28 (rd_c chX11_way_0_04 (j := 15) rfl rfl)
theorem chX11_way_1_04 : ((cX11_way.data.toList.drop 16).take 16).map UInt8.toNat = [159, 0, 14, 21, 4, 3, 16, 99, 184, 0, 170, 154, 0, 5, 3, 172] := by decide +kernel
theorem dX11_way_16 : decode cX11_way 16 = .ok (.if_icmp .eq 14, 3) := dk159 (rd_c chX11_way_1_04 (j := 0) rfl rfl) (rd_c chX11_way_1_04 (j := 1) rfl rfl) (rd_c chX11_way_1_04 (j := 2) rfl rfl) rfl
theorem dX11_way_19 : decode cX11_way 19 = .ok (.iload 4, 2) := dk21 (rd_c chX11_way_1_04 (j := 3) rfl rfl) (rd_c chX11_way_1_04 (j := 4) rfl rfl)
theorem dX11_way_21 : decode cX11_way 21 = .ok (.iconst 0, 1) := dk3 (rd_c chX11_way_1_04 (j := 5) rfl rfl)
theorem dX11_way_22 : decode cX11_way 22 = .ok (.bipush 99, 2) := dk16 (rd_c chX11_way_1_04 (j := 6) rfl rfl) (rd_c chX11_way_1_04 (j := 7) rfl rfl) rfl
theorem dX11_way_24 : decode cX11_way 24 = .ok (.invokestatic 170, 3) := dk184 (rd_c chX11_way_1_04 (j := 8) rfl rfl) (rd_c chX11_way_1_04 (j := 9) rfl rfl) (rd_c chX11_way_1_04 (j := 10) rfl rfl) rfl
theorem dX11_way_27 : decode cX11_way 27 = .ok (.ifCond .ne 5, 3) := dk154 (rd_c chX11_way_1_04 (j := 11) rfl rfl) (rd_c chX11_way_1_04 (j := 12) rfl rfl) (rd_c chX11_way_1_04 (j := 13) rfl rfl) rfl
theorem dX11_way_30 : decode cX11_way 30 = .ok (.iconst 0, 1) := dk3 (rd_c chX11_way_1_04 (j := 14) rfl rfl)
theorem dX11_way_31 : decode cX11_way 31 = .ok (.ireturn, 1) := dk172 (rd_c chX11_way_1_04 (j := 15) rfl rfl)
theorem chX11_way_2_04 : ((cX11_way.data.toList.drop 32).take 16).map UInt8.toNat = [29, 153, 0, 10, 42, 180, 0, 14, 167, 0, 7, 42, 180, 0, 11, 58] := by decide +kernel
theorem dX11_way_32 : decode cX11_way 32 = .ok (.iload_n 3, 1) := dk29 (rd_c chX11_way_2_04 (j := 0) rfl rfl)
theorem dX11_way_33 : decode cX11_way 33 = .ok (.ifCond .eq 10, 3) := dk153 (rd_c chX11_way_2_04 (j := 1) rfl rfl) (rd_c chX11_way_2_04 (j := 2) rfl rfl) (rd_c chX11_way_2_04 (j := 3) rfl rfl) rfl
theorem dX11_way_36 : decode cX11_way 36 = .ok (.aload_n 0, 1) := dk42 (rd_c chX11_way_2_04 (j := 4) rfl rfl)
theorem dX11_way_37 : decode cX11_way 37 = .ok (.getfield 14, 3) := dk180 (rd_c chX11_way_2_04 (j := 5) rfl rfl) (rd_c chX11_way_2_04 (j := 6) rfl rfl) (rd_c chX11_way_2_04 (j := 7) rfl rfl) rfl
theorem dX11_way_40 : decode cX11_way 40 = .ok (.goto 7, 3) := dk167 (rd_c chX11_way_2_04 (j := 8) rfl rfl) (rd_c chX11_way_2_04 (j := 9) rfl rfl) (rd_c chX11_way_2_04 (j := 10) rfl rfl) rfl
theorem dX11_way_43 : decode cX11_way 43 = .ok (.aload_n 0, 1) := dk42 (rd_c chX11_way_2_04 (j := 11) rfl rfl)
theorem dX11_way_44 : decode cX11_way 44 = .ok (.getfield 11, 3) := dk180 (rd_c chX11_way_2_04 (j := 12) rfl rfl) (rd_c chX11_way_2_04 (j := 13) rfl rfl) (rd_c chX11_way_2_04 (j := 14) rfl rfl) rfl
theorem chX11_way_3_04 : ((cX11_way.data.toList.drop 48).take 16).map UInt8.toNat = [5, 25, 5, 27, 50, 28, 21, 4, 79, 25, 5, 28, 50, 27, 21, 4] := by decide +kernel
theorem dX11_way_47 : decode cX11_way 47 = .ok (.astore 5, 2) := dk58 (rd_c chX11_way_2_04 (j := 15) rfl rfl) (rd_c chX11_way_3_04 (j := 0) rfl rfl)
theorem dX11_way_49 : decode cX11_way 49 = .ok (.aload 5, 2) := dk25 (rd_c chX11_way_3_04 (j := 1) rfl rfl) (rd_c chX11_way_3_04 (j := 2) rfl rfl)
theorem dX11_way_51 : decode cX11_way 51 = .ok (.iload_n 1, 1) := dk27 (rd_c chX11_way_3_04 (j := 3) rfl rfl)
theorem dX11_way_52 : decode cX11_way 52 = .ok (.aaload, 1) := dk50 (rd_c chX11_way_3_04 (j := 4) rfl rfl)
theorem dX11_way_53 : decode cX11_way 53 = .ok (.iload_n 2, 1) := dk28 (rd_c chX11_way_3_04 (j := 5) rfl rfl)
theorem dX11_way_54 : decode cX11_way 54 = .ok (.iload 4, 2) := dk21 (rd_c chX11_way_3_04 (j := 6) rfl rfl) (rd_c chX11_way_3_04 (j := 7) rfl rfl)
theorem dX11_way_56 : decode cX11_way 56 = .ok (.iastore, 1) := dk79 (rd_c chX11_way_3_04 (j := 8) rfl rfl)
theorem dX11_way_57 : decode cX11_way 57 = .ok (.aload 5, 2) := dk25 (rd_c chX11_way_3_04 (j := 9) rfl rfl) (rd_c chX11_way_3_04 (j := 10) rfl rfl)
theorem dX11_way_59 : decode cX11_way 59 = .ok (.iload_n 2, 1) := dk28 (rd_c chX11_way_3_04 (j := 11) rfl rfl)
theorem dX11_way_60 : decode cX11_way 60 = .ok (.aaload, 1) := dk50 (rd_c chX11_way_3_04 (j := 12) rfl rfl)
theorem dX11_way_61 : decode cX11_way 61 = .ok (.iload_n 1, 1) := dk27 (rd_c chX11_way_3_04 (j := 13) rfl rfl)
theorem dX11_way_62 : decode cX11_way 62 = .ok (.iload 4, 2) := dk21 (rd_c chX11_way_3_04 (j := 14) rfl rfl) (rd_c chX11_way_3_04 (j := 15) rfl rfl)
theorem chX11_way_4_04 : ((cX11_way.data.toList.drop 64).take 16).map UInt8.toNat = [79, 4, 172] := by decide +kernel
theorem dX11_way_64 : decode cX11_way 64 = .ok (.iastore, 1) := dk79 (rd_c chX11_way_4_04 (j := 0) rfl rfl)
theorem dX11_way_65 : decode cX11_way 65 = .ok (.iconst 1, 1) := dk4 (rd_c chX11_way_4_04 (j := 1) rfl rfl)
theorem dX11_way_66 : decode cX11_way 66 = .ok (.ireturn, 1) := dk172 (rd_c chX11_way_4_04 (j := 2) rfl rfl)
set_option maxRecDepth 20000 in
theorem ggX11_rate_X11_isTown : GoodIn wsX11_rate wsX11_isTown := goodIn_sub (show ∀ w ∈ wsX11_isTown, w ∈ wsX11_rate from (List.forall_mem_cons.mpr ⟨List.mem_cons_of_mem _ (List.mem_append_left _ (List.mem_of_getElem? (i := 6) rfl)), (fun _ h => absurd h List.not_mem_nil)⟩)) (by decide +kernel)
set_option maxRecDepth 20000 in
theorem gX11_rate_X11_isTown : GoodIn wsX11_rate (va_wsS RX11 174 yX11_isTown wsX11_isTown) := goodIn_app (goodIn_sub (List.forall_mem_cons.mpr ⟨List.mem_cons_of_mem _ (List.mem_append_left _ (List.mem_of_getElem? (i := 3) rfl)), (List.forall_mem_cons.mpr ⟨List.mem_cons_of_mem _ (List.mem_append_left _ (List.mem_of_getElem? (i := 4) rfl)), (List.forall_mem_cons.mpr ⟨List.mem_cons_of_mem _ (List.mem_append_left _ (List.mem_of_getElem? (i := 5) rfl)), (fun _ h => absurd h List.not_mem_nil)⟩)⟩)⟩) (by decide +kernel)) ggX11_rate_X11_isTown
set_option maxRecDepth 20000 in
theorem ggX11_rate_X11_in : GoodIn wsX11_rate wsX11_in := goodIn_sub (show ∀ w ∈ wsX11_in, w ∈ wsX11_rate from (List.forall_mem_cons.mpr ⟨List.mem_cons_of_mem _ (List.mem_append_left _ (List.mem_of_getElem? (i := 9) rfl)), (fun _ h => absurd h List.not_mem_nil)⟩)) (by decide +kernel)
set_option maxRecDepth 20000 in
theorem gX11_rate_X11_in : GoodIn wsX11_rate (va_wsS RX11 170 yX11_in wsX11_in) := goodIn_app (goodIn_sub (List.forall_mem_cons.mpr ⟨List.mem_cons_of_mem _ (List.mem_append_left _ (List.mem_of_getElem? (i := 7) rfl)), (List.forall_mem_cons.mpr ⟨List.mem_cons_of_mem _ (List.mem_append_left _ (List.mem_of_getElem? (i := 8) rfl)), (List.forall_mem_cons.mpr ⟨List.mem_cons_of_mem _ (List.mem_append_left _ (List.mem_of_getElem? (i := 5) rfl)), (fun _ h => absurd h List.not_mem_nil)⟩)⟩)⟩) (by decide +kernel)) ggX11_rate_X11_in
theorem chX11_rate_0_04 : ((cX11_rate.data.toList.drop 0).take 16).map UInt8.toNat = [27, 184, 0, 174, 153, 0, 22, 28, 3, 6, 184, 0, 170, 153, 0, 13] := by decide +kernel
theorem dX11_rate_0 : decode cX11_rate 0 = .ok (.iload_n 1, 1) := dk27 (rd_c chX11_rate_0_04 (j := 0) rfl rfl)
theorem dX11_rate_1 : decode cX11_rate 1 = .ok (.invokestatic 174, 3) := dk184 (rd_c chX11_rate_0_04 (j := 1) rfl rfl) (rd_c chX11_rate_0_04 (j := 2) rfl rfl) (rd_c chX11_rate_0_04 (j := 3) rfl rfl) rfl
theorem dX11_rate_4 : decode cX11_rate 4 = .ok (.ifCond .eq 22, 3) := dk153 (rd_c chX11_rate_0_04 (j := 4) rfl rfl) (rd_c chX11_rate_0_04 (j := 5) rfl rfl) (rd_c chX11_rate_0_04 (j := 6) rfl rfl) rfl
theorem dX11_rate_7 : decode cX11_rate 7 = .ok (.iload_n 2, 1) := dk28 (rd_c chX11_rate_0_04 (j := 7) rfl rfl)
theorem dX11_rate_8 : decode cX11_rate 8 = .ok (.iconst 0, 1) := dk3 (rd_c chX11_rate_0_04 (j := 8) rfl rfl)
theorem dX11_rate_9 : decode cX11_rate 9 = .ok (.iconst 3, 1) := dk6 (rd_c chX11_rate_0_04 (j := 9) rfl rfl)
theorem dX11_rate_10 : decode cX11_rate 10 = .ok (.invokestatic 170, 3) := dk184 (rd_c chX11_rate_0_04 (j := 10) rfl rfl) (rd_c chX11_rate_0_04 (j := 11) rfl rfl) (rd_c chX11_rate_0_04 (j := 12) rfl rfl) rfl
theorem dX11_rate_13 : decode cX11_rate 13 = .ok (.ifCond .eq 13, 3) := dk153 (rd_c chX11_rate_0_04 (j := 13) rfl rfl) (rd_c chX11_rate_0_04 (j := 14) rfl rfl) (rd_c chX11_rate_0_04 (j := 15) rfl rfl) rfl
theorem chX11_rate_1_04 : ((cX11_rate.data.toList.drop 16).take 16).map UInt8.toNat = [29, 4, 18, 178, 184, 0, 170, 154, 0, 5, 3, 172, 42, 180, 0, 17] := by decide +kernel
theorem dX11_rate_16 : decode cX11_rate 16 = .ok (.iload_n 3, 1) := dk29 (rd_c chX11_rate_1_04 (j := 0) rfl rfl)
theorem dX11_rate_17 : decode cX11_rate 17 = .ok (.iconst 1, 1) := dk4 (rd_c chX11_rate_1_04 (j := 1) rfl rfl)
theorem dX11_rate_18 : decode cX11_rate 18 = .ok (.ldc 178, 2) := dk18 (rd_c chX11_rate_1_04 (j := 2) rfl rfl) (rd_c chX11_rate_1_04 (j := 3) rfl rfl)
theorem dX11_rate_20 : decode cX11_rate 20 = .ok (.invokestatic 170, 3) := dk184 (rd_c chX11_rate_1_04 (j := 4) rfl rfl) (rd_c chX11_rate_1_04 (j := 5) rfl rfl) (rd_c chX11_rate_1_04 (j := 6) rfl rfl) rfl
theorem dX11_rate_23 : decode cX11_rate 23 = .ok (.ifCond .ne 5, 3) := dk154 (rd_c chX11_rate_1_04 (j := 7) rfl rfl) (rd_c chX11_rate_1_04 (j := 8) rfl rfl) (rd_c chX11_rate_1_04 (j := 9) rfl rfl) rfl
theorem dX11_rate_26 : decode cX11_rate 26 = .ok (.iconst 0, 1) := dk3 (rd_c chX11_rate_1_04 (j := 10) rfl rfl)
theorem dX11_rate_27 : decode cX11_rate 27 = .ok (.ireturn, 1) := dk172 (rd_c chX11_rate_1_04 (j := 11) rfl rfl)
theorem dX11_rate_28 : decode cX11_rate 28 = .ok (.aload_n 0, 1) := dk42 (rd_c chX11_rate_1_04 (j := 12) rfl rfl)
theorem dX11_rate_29 : decode cX11_rate 29 = .ok (.getfield 17, 3) := dk180 (rd_c chX11_rate_1_04 (j := 13) rfl rfl) (rd_c chX11_rate_1_04 (j := 14) rfl rfl) (rd_c chX11_rate_1_04 (j := 15) rfl rfl) rfl
theorem chX11_rate_2_04 : ((cX11_rate.data.toList.drop 32).take 16).map UInt8.toNat = [27, 28, 79, 42, 180, 0, 21, 27, 29, 79, 4, 172] := by decide +kernel
theorem dX11_rate_32 : decode cX11_rate 32 = .ok (.iload_n 1, 1) := dk27 (rd_c chX11_rate_2_04 (j := 0) rfl rfl)
theorem dX11_rate_33 : decode cX11_rate 33 = .ok (.iload_n 2, 1) := dk28 (rd_c chX11_rate_2_04 (j := 1) rfl rfl)
theorem dX11_rate_34 : decode cX11_rate 34 = .ok (.iastore, 1) := dk79 (rd_c chX11_rate_2_04 (j := 2) rfl rfl)
theorem dX11_rate_35 : decode cX11_rate 35 = .ok (.aload_n 0, 1) := dk42 (rd_c chX11_rate_2_04 (j := 3) rfl rfl)
theorem dX11_rate_36 : decode cX11_rate 36 = .ok (.getfield 21, 3) := dk180 (rd_c chX11_rate_2_04 (j := 4) rfl rfl) (rd_c chX11_rate_2_04 (j := 5) rfl rfl) (rd_c chX11_rate_2_04 (j := 6) rfl rfl) rfl
theorem dX11_rate_39 : decode cX11_rate 39 = .ok (.iload_n 1, 1) := dk27 (rd_c chX11_rate_2_04 (j := 7) rfl rfl)
theorem dX11_rate_40 : decode cX11_rate 40 = .ok (.iload_n 3, 1) := dk29 (rd_c chX11_rate_2_04 (j := 8) rfl rfl)
theorem dX11_rate_41 : decode cX11_rate 41 = .ok (.iastore, 1) := dk79 (rd_c chX11_rate_2_04 (j := 9) rfl rfl)
theorem dX11_rate_42 : decode cX11_rate 42 = .ok (.iconst 1, 1) := dk4 (rd_c chX11_rate_2_04 (j := 10) rfl rfl)
theorem dX11_rate_43 : decode cX11_rate 43 = .ok (.ireturn, 1) := dk172 (rd_c chX11_rate_2_04 (j := 11) rfl rfl)
theorem chX11_sends_0_04 : ((cX11_sends.data.toList.drop 0).take 16).map UInt8.toNat = [3, 62, 29, 16, 12, 162, 0, 26, 42, 180, 0, 24, 29, 29, 27, 160] := by decide +kernel
theorem dX11_sends_0 : decode cX11_sends 0 = .ok (.iconst 0, 1) := dk3 (rd_c chX11_sends_0_04 (j := 0) rfl rfl)
theorem dX11_sends_1 : decode cX11_sends 1 = .ok (.istore_n 3, 1) := dk62 (rd_c chX11_sends_0_04 (j := 1) rfl rfl)
theorem dX11_sends_2 : decode cX11_sends 2 = .ok (.iload_n 3, 1) := dk29 (rd_c chX11_sends_0_04 (j := 2) rfl rfl)
theorem dX11_sends_3 : decode cX11_sends 3 = .ok (.bipush 12, 2) := dk16 (rd_c chX11_sends_0_04 (j := 3) rfl rfl) (rd_c chX11_sends_0_04 (j := 4) rfl rfl) rfl
theorem dX11_sends_5 : decode cX11_sends 5 = .ok (.if_icmp .ge 26, 3) := dk162 (rd_c chX11_sends_0_04 (j := 5) rfl rfl) (rd_c chX11_sends_0_04 (j := 6) rfl rfl) (rd_c chX11_sends_0_04 (j := 7) rfl rfl) rfl
theorem dX11_sends_8 : decode cX11_sends 8 = .ok (.aload_n 0, 1) := dk42 (rd_c chX11_sends_0_04 (j := 8) rfl rfl)
theorem dX11_sends_9 : decode cX11_sends 9 = .ok (.getfield 24, 3) := dk180 (rd_c chX11_sends_0_04 (j := 9) rfl rfl) (rd_c chX11_sends_0_04 (j := 10) rfl rfl) (rd_c chX11_sends_0_04 (j := 11) rfl rfl) rfl
theorem dX11_sends_12 : decode cX11_sends 12 = .ok (.iload_n 3, 1) := dk29 (rd_c chX11_sends_0_04 (j := 12) rfl rfl)
theorem dX11_sends_13 : decode cX11_sends 13 = .ok (.iload_n 3, 1) := dk29 (rd_c chX11_sends_0_04 (j := 13) rfl rfl)
theorem dX11_sends_14 : decode cX11_sends 14 = .ok (.iload_n 1, 1) := dk27 (rd_c chX11_sends_0_04 (j := 14) rfl rfl)
theorem chX11_sends_1_04 : ((cX11_sends.data.toList.drop 16).take 16).map UInt8.toNat = [0, 7, 3, 167, 0, 5, 18, 159, 79, 132, 3, 1, 167, 255, 230, 3] := by decide +kernel
theorem dX11_sends_15 : decode cX11_sends 15 = .ok (.if_icmp .ne 7, 3) := dk160 (rd_c chX11_sends_0_04 (j := 15) rfl rfl) (rd_c chX11_sends_1_04 (j := 0) rfl rfl) (rd_c chX11_sends_1_04 (j := 1) rfl rfl) rfl
theorem dX11_sends_18 : decode cX11_sends 18 = .ok (.iconst 0, 1) := dk3 (rd_c chX11_sends_1_04 (j := 2) rfl rfl)
theorem dX11_sends_19 : decode cX11_sends 19 = .ok (.goto 5, 3) := dk167 (rd_c chX11_sends_1_04 (j := 3) rfl rfl) (rd_c chX11_sends_1_04 (j := 4) rfl rfl) (rd_c chX11_sends_1_04 (j := 5) rfl rfl) rfl
theorem dX11_sends_22 : decode cX11_sends 22 = .ok (.ldc 159, 2) := dk18 (rd_c chX11_sends_1_04 (j := 6) rfl rfl) (rd_c chX11_sends_1_04 (j := 7) rfl rfl)
theorem dX11_sends_24 : decode cX11_sends 24 = .ok (.iastore, 1) := dk79 (rd_c chX11_sends_1_04 (j := 8) rfl rfl)
theorem dX11_sends_25 : decode cX11_sends 25 = .ok (.iinc 3 1, 3) := dk132 (rd_c chX11_sends_1_04 (j := 9) rfl rfl) (rd_c chX11_sends_1_04 (j := 10) rfl rfl) (rd_c chX11_sends_1_04 (j := 11) rfl rfl) rfl
theorem dX11_sends_28 : decode cX11_sends 28 = .ok (.goto (-26), 3) := dk167 (rd_c chX11_sends_1_04 (j := 12) rfl rfl) (rd_c chX11_sends_1_04 (j := 13) rfl rfl) (rd_c chX11_sends_1_04 (j := 14) rfl rfl) rfl
theorem dX11_sends_31 : decode cX11_sends 31 = .ok (.iconst 0, 1) := dk3 (rd_c chX11_sends_1_04 (j := 15) rfl rfl)
theorem chX11_sends_2_04 : ((cX11_sends.data.toList.drop 32).take 16).map UInt8.toNat = [62, 29, 16, 12, 162, 0, 130, 3, 54, 4, 21, 4, 16, 12, 162, 0] := by decide +kernel
theorem dX11_sends_32 : decode cX11_sends 32 = .ok (.istore_n 3, 1) := dk62 (rd_c chX11_sends_2_04 (j := 0) rfl rfl)
theorem dX11_sends_33 : decode cX11_sends 33 = .ok (.iload_n 3, 1) := dk29 (rd_c chX11_sends_2_04 (j := 1) rfl rfl)
theorem dX11_sends_34 : decode cX11_sends 34 = .ok (.bipush 12, 2) := dk16 (rd_c chX11_sends_2_04 (j := 2) rfl rfl) (rd_c chX11_sends_2_04 (j := 3) rfl rfl) rfl
theorem dX11_sends_36 : decode cX11_sends 36 = .ok (.if_icmp .ge 130, 3) := dk162 (rd_c chX11_sends_2_04 (j := 4) rfl rfl) (rd_c chX11_sends_2_04 (j := 5) rfl rfl) (rd_c chX11_sends_2_04 (j := 6) rfl rfl) rfl
theorem dX11_sends_39 : decode cX11_sends 39 = .ok (.iconst 0, 1) := dk3 (rd_c chX11_sends_2_04 (j := 7) rfl rfl)
theorem dX11_sends_40 : decode cX11_sends 40 = .ok (.istore 4, 2) := dk54 (rd_c chX11_sends_2_04 (j := 8) rfl rfl) (rd_c chX11_sends_2_04 (j := 9) rfl rfl)
theorem dX11_sends_42 : decode cX11_sends 42 = .ok (.iload 4, 2) := dk21 (rd_c chX11_sends_2_04 (j := 10) rfl rfl) (rd_c chX11_sends_2_04 (j := 11) rfl rfl)
theorem dX11_sends_44 : decode cX11_sends 44 = .ok (.bipush 12, 2) := dk16 (rd_c chX11_sends_2_04 (j := 12) rfl rfl) (rd_c chX11_sends_2_04 (j := 13) rfl rfl) rfl
theorem chX11_sends_3_04 : ((cX11_sends.data.toList.drop 48).take 16).map UInt8.toNat = [114, 3, 54, 5, 21, 5, 16, 12, 162, 0, 98, 28, 153, 0, 39, 42] := by decide +kernel
theorem dX11_sends_46 : decode cX11_sends 46 = .ok (.if_icmp .ge 114, 3) := dk162 (rd_c chX11_sends_2_04 (j := 14) rfl rfl) (rd_c chX11_sends_2_04 (j := 15) rfl rfl) (rd_c chX11_sends_3_04 (j := 0) rfl rfl) rfl
theorem dX11_sends_49 : decode cX11_sends 49 = .ok (.iconst 0, 1) := dk3 (rd_c chX11_sends_3_04 (j := 1) rfl rfl)
theorem dX11_sends_50 : decode cX11_sends 50 = .ok (.istore 5, 2) := dk54 (rd_c chX11_sends_3_04 (j := 2) rfl rfl) (rd_c chX11_sends_3_04 (j := 3) rfl rfl)
theorem dX11_sends_52 : decode cX11_sends 52 = .ok (.iload 5, 2) := dk21 (rd_c chX11_sends_3_04 (j := 4) rfl rfl) (rd_c chX11_sends_3_04 (j := 5) rfl rfl)
theorem dX11_sends_54 : decode cX11_sends 54 = .ok (.bipush 12, 2) := dk16 (rd_c chX11_sends_3_04 (j := 6) rfl rfl) (rd_c chX11_sends_3_04 (j := 7) rfl rfl) rfl
theorem dX11_sends_56 : decode cX11_sends 56 = .ok (.if_icmp .ge 98, 3) := dk162 (rd_c chX11_sends_3_04 (j := 8) rfl rfl) (rd_c chX11_sends_3_04 (j := 9) rfl rfl) (rd_c chX11_sends_3_04 (j := 10) rfl rfl) rfl
theorem dX11_sends_59 : decode cX11_sends 59 = .ok (.iload_n 2, 1) := dk28 (rd_c chX11_sends_3_04 (j := 11) rfl rfl)
theorem dX11_sends_60 : decode cX11_sends 60 = .ok (.ifCond .eq 39, 3) := dk153 (rd_c chX11_sends_3_04 (j := 12) rfl rfl) (rd_c chX11_sends_3_04 (j := 13) rfl rfl) (rd_c chX11_sends_3_04 (j := 14) rfl rfl) rfl
theorem dX11_sends_63 : decode cX11_sends 63 = .ok (.aload_n 0, 1) := dk42 (rd_c chX11_sends_3_04 (j := 15) rfl rfl)
theorem chX11_sends_4_04 : ((cX11_sends.data.toList.drop 64).take 16).map UInt8.toNat = [180, 0, 14, 21, 4, 50, 21, 5, 46, 42, 180, 0, 11, 21, 4, 50] := by decide +kernel
theorem dX11_sends_64 : decode cX11_sends 64 = .ok (.getfield 14, 3) := dk180 (rd_c chX11_sends_4_04 (j := 0) rfl rfl) (rd_c chX11_sends_4_04 (j := 1) rfl rfl) (rd_c chX11_sends_4_04 (j := 2) rfl rfl) rfl
theorem dX11_sends_67 : decode cX11_sends 67 = .ok (.iload 4, 2) := dk21 (rd_c chX11_sends_4_04 (j := 3) rfl rfl) (rd_c chX11_sends_4_04 (j := 4) rfl rfl)
theorem dX11_sends_69 : decode cX11_sends 69 = .ok (.aaload, 1) := dk50 (rd_c chX11_sends_4_04 (j := 5) rfl rfl)
theorem dX11_sends_70 : decode cX11_sends 70 = .ok (.iload 5, 2) := dk21 (rd_c chX11_sends_4_04 (j := 6) rfl rfl) (rd_c chX11_sends_4_04 (j := 7) rfl rfl)
theorem dX11_sends_72 : decode cX11_sends 72 = .ok (.iaload, 1) := dk46 (rd_c chX11_sends_4_04 (j := 8) rfl rfl)
theorem dX11_sends_73 : decode cX11_sends 73 = .ok (.aload_n 0, 1) := dk42 (rd_c chX11_sends_4_04 (j := 9) rfl rfl)
theorem dX11_sends_74 : decode cX11_sends 74 = .ok (.getfield 11, 3) := dk180 (rd_c chX11_sends_4_04 (j := 10) rfl rfl) (rd_c chX11_sends_4_04 (j := 11) rfl rfl) (rd_c chX11_sends_4_04 (j := 12) rfl rfl) rfl
theorem dX11_sends_77 : decode cX11_sends 77 = .ok (.iload 4, 2) := dk21 (rd_c chX11_sends_4_04 (j := 13) rfl rfl) (rd_c chX11_sends_4_04 (j := 14) rfl rfl)
theorem dX11_sends_79 : decode cX11_sends 79 = .ok (.aaload, 1) := dk50 (rd_c chX11_sends_4_04 (j := 15) rfl rfl)
theorem chX11_sends_5_04 : ((cX11_sends.data.toList.drop 80).take 16).map UInt8.toNat = [21, 5, 46, 162, 0, 16, 42, 180, 0, 14, 21, 4, 50, 21, 5, 46] := by decide +kernel
theorem dX11_sends_80 : decode cX11_sends 80 = .ok (.iload 5, 2) := dk21 (rd_c chX11_sends_5_04 (j := 0) rfl rfl) (rd_c chX11_sends_5_04 (j := 1) rfl rfl)
theorem dX11_sends_82 : decode cX11_sends 82 = .ok (.iaload, 1) := dk46 (rd_c chX11_sends_5_04 (j := 2) rfl rfl)
theorem dX11_sends_83 : decode cX11_sends 83 = .ok (.if_icmp .ge 16, 3) := dk162 (rd_c chX11_sends_5_04 (j := 3) rfl rfl) (rd_c chX11_sends_5_04 (j := 4) rfl rfl) (rd_c chX11_sends_5_04 (j := 5) rfl rfl) rfl
theorem dX11_sends_86 : decode cX11_sends 86 = .ok (.aload_n 0, 1) := dk42 (rd_c chX11_sends_5_04 (j := 6) rfl rfl)
theorem dX11_sends_87 : decode cX11_sends 87 = .ok (.getfield 14, 3) := dk180 (rd_c chX11_sends_5_04 (j := 7) rfl rfl) (rd_c chX11_sends_5_04 (j := 8) rfl rfl) (rd_c chX11_sends_5_04 (j := 9) rfl rfl) rfl
theorem dX11_sends_90 : decode cX11_sends 90 = .ok (.iload 4, 2) := dk21 (rd_c chX11_sends_5_04 (j := 10) rfl rfl) (rd_c chX11_sends_5_04 (j := 11) rfl rfl)
theorem dX11_sends_92 : decode cX11_sends 92 = .ok (.aaload, 1) := dk50 (rd_c chX11_sends_5_04 (j := 12) rfl rfl)
theorem dX11_sends_93 : decode cX11_sends 93 = .ok (.iload 5, 2) := dk21 (rd_c chX11_sends_5_04 (j := 13) rfl rfl) (rd_c chX11_sends_5_04 (j := 14) rfl rfl)
theorem dX11_sends_95 : decode cX11_sends 95 = .ok (.iaload, 1) := dk46 (rd_c chX11_sends_5_04 (j := 15) rfl rfl)
theorem chX11_sends_6_04 : ((cX11_sends.data.toList.drop 96).take 16).map UInt8.toNat = [167, 0, 13, 42, 180, 0, 11, 21, 4, 50, 21, 5, 46, 54, 6, 42] := by decide +kernel
theorem dX11_sends_96 : decode cX11_sends 96 = .ok (.goto 13, 3) := dk167 (rd_c chX11_sends_6_04 (j := 0) rfl rfl) (rd_c chX11_sends_6_04 (j := 1) rfl rfl) (rd_c chX11_sends_6_04 (j := 2) rfl rfl) rfl
theorem dX11_sends_99 : decode cX11_sends 99 = .ok (.aload_n 0, 1) := dk42 (rd_c chX11_sends_6_04 (j := 3) rfl rfl)
theorem dX11_sends_100 : decode cX11_sends 100 = .ok (.getfield 11, 3) := dk180 (rd_c chX11_sends_6_04 (j := 4) rfl rfl) (rd_c chX11_sends_6_04 (j := 5) rfl rfl) (rd_c chX11_sends_6_04 (j := 6) rfl rfl) rfl
theorem dX11_sends_103 : decode cX11_sends 103 = .ok (.iload 4, 2) := dk21 (rd_c chX11_sends_6_04 (j := 7) rfl rfl) (rd_c chX11_sends_6_04 (j := 8) rfl rfl)
theorem dX11_sends_105 : decode cX11_sends 105 = .ok (.aaload, 1) := dk50 (rd_c chX11_sends_6_04 (j := 9) rfl rfl)
theorem dX11_sends_106 : decode cX11_sends 106 = .ok (.iload 5, 2) := dk21 (rd_c chX11_sends_6_04 (j := 10) rfl rfl) (rd_c chX11_sends_6_04 (j := 11) rfl rfl)
theorem dX11_sends_108 : decode cX11_sends 108 = .ok (.iaload, 1) := dk46 (rd_c chX11_sends_6_04 (j := 12) rfl rfl)
theorem dX11_sends_109 : decode cX11_sends 109 = .ok (.istore 6, 2) := dk54 (rd_c chX11_sends_6_04 (j := 13) rfl rfl) (rd_c chX11_sends_6_04 (j := 14) rfl rfl)
theorem dX11_sends_111 : decode cX11_sends 111 = .ok (.aload_n 0, 1) := dk42 (rd_c chX11_sends_6_04 (j := 15) rfl rfl)
theorem chX11_sends_7_04 : ((cX11_sends.data.toList.drop 112).take 16).map UInt8.toNat = [180, 0, 24, 21, 4, 46, 21, 6, 96, 42, 180, 0, 24, 21, 5, 46] := by decide +kernel
theorem dX11_sends_112 : decode cX11_sends 112 = .ok (.getfield 24, 3) := dk180 (rd_c chX11_sends_7_04 (j := 0) rfl rfl) (rd_c chX11_sends_7_04 (j := 1) rfl rfl) (rd_c chX11_sends_7_04 (j := 2) rfl rfl) rfl
theorem dX11_sends_115 : decode cX11_sends 115 = .ok (.iload 4, 2) := dk21 (rd_c chX11_sends_7_04 (j := 3) rfl rfl) (rd_c chX11_sends_7_04 (j := 4) rfl rfl)
theorem dX11_sends_117 : decode cX11_sends 117 = .ok (.iaload, 1) := dk46 (rd_c chX11_sends_7_04 (j := 5) rfl rfl)
theorem dX11_sends_118 : decode cX11_sends 118 = .ok (.iload 6, 2) := dk21 (rd_c chX11_sends_7_04 (j := 6) rfl rfl) (rd_c chX11_sends_7_04 (j := 7) rfl rfl)
theorem dX11_sends_120 : decode cX11_sends 120 = .ok (.iadd, 1) := dk96 (rd_c chX11_sends_7_04 (j := 8) rfl rfl)
theorem dX11_sends_121 : decode cX11_sends 121 = .ok (.aload_n 0, 1) := dk42 (rd_c chX11_sends_7_04 (j := 9) rfl rfl)
theorem dX11_sends_122 : decode cX11_sends 122 = .ok (.getfield 24, 3) := dk180 (rd_c chX11_sends_7_04 (j := 10) rfl rfl) (rd_c chX11_sends_7_04 (j := 11) rfl rfl) (rd_c chX11_sends_7_04 (j := 12) rfl rfl) rfl
theorem dX11_sends_125 : decode cX11_sends 125 = .ok (.iload 5, 2) := dk21 (rd_c chX11_sends_7_04 (j := 13) rfl rfl) (rd_c chX11_sends_7_04 (j := 14) rfl rfl)
theorem dX11_sends_127 : decode cX11_sends 127 = .ok (.iaload, 1) := dk46 (rd_c chX11_sends_7_04 (j := 15) rfl rfl)
theorem chX11_sends_8_04 : ((cX11_sends.data.toList.drop 128).take 16).map UInt8.toNat = [162, 0, 20, 42, 180, 0, 24, 21, 5, 42, 180, 0, 24, 21, 4, 46] := by decide +kernel
theorem dX11_sends_128 : decode cX11_sends 128 = .ok (.if_icmp .ge 20, 3) := dk162 (rd_c chX11_sends_8_04 (j := 0) rfl rfl) (rd_c chX11_sends_8_04 (j := 1) rfl rfl) (rd_c chX11_sends_8_04 (j := 2) rfl rfl) rfl
theorem dX11_sends_131 : decode cX11_sends 131 = .ok (.aload_n 0, 1) := dk42 (rd_c chX11_sends_8_04 (j := 3) rfl rfl)
theorem dX11_sends_132 : decode cX11_sends 132 = .ok (.getfield 24, 3) := dk180 (rd_c chX11_sends_8_04 (j := 4) rfl rfl) (rd_c chX11_sends_8_04 (j := 5) rfl rfl) (rd_c chX11_sends_8_04 (j := 6) rfl rfl) rfl
theorem dX11_sends_135 : decode cX11_sends 135 = .ok (.iload 5, 2) := dk21 (rd_c chX11_sends_8_04 (j := 7) rfl rfl) (rd_c chX11_sends_8_04 (j := 8) rfl rfl)
theorem dX11_sends_137 : decode cX11_sends 137 = .ok (.aload_n 0, 1) := dk42 (rd_c chX11_sends_8_04 (j := 9) rfl rfl)
theorem dX11_sends_138 : decode cX11_sends 138 = .ok (.getfield 24, 3) := dk180 (rd_c chX11_sends_8_04 (j := 10) rfl rfl) (rd_c chX11_sends_8_04 (j := 11) rfl rfl) (rd_c chX11_sends_8_04 (j := 12) rfl rfl) rfl
theorem dX11_sends_141 : decode cX11_sends 141 = .ok (.iload 4, 2) := dk21 (rd_c chX11_sends_8_04 (j := 13) rfl rfl) (rd_c chX11_sends_8_04 (j := 14) rfl rfl)
theorem dX11_sends_143 : decode cX11_sends 143 = .ok (.iaload, 1) := dk46 (rd_c chX11_sends_8_04 (j := 15) rfl rfl)
theorem chX11_sends_9_04 : ((cX11_sends.data.toList.drop 144).take 16).map UInt8.toNat = [21, 6, 96, 79, 132, 5, 1, 167, 255, 157, 132, 4, 1, 167, 255, 141] := by decide +kernel
theorem dX11_sends_144 : decode cX11_sends 144 = .ok (.iload 6, 2) := dk21 (rd_c chX11_sends_9_04 (j := 0) rfl rfl) (rd_c chX11_sends_9_04 (j := 1) rfl rfl)
theorem dX11_sends_146 : decode cX11_sends 146 = .ok (.iadd, 1) := dk96 (rd_c chX11_sends_9_04 (j := 2) rfl rfl)
theorem dX11_sends_147 : decode cX11_sends 147 = .ok (.iastore, 1) := dk79 (rd_c chX11_sends_9_04 (j := 3) rfl rfl)
theorem dX11_sends_148 : decode cX11_sends 148 = .ok (.iinc 5 1, 3) := dk132 (rd_c chX11_sends_9_04 (j := 4) rfl rfl) (rd_c chX11_sends_9_04 (j := 5) rfl rfl) (rd_c chX11_sends_9_04 (j := 6) rfl rfl) rfl
theorem dX11_sends_151 : decode cX11_sends 151 = .ok (.goto (-99), 3) := dk167 (rd_c chX11_sends_9_04 (j := 7) rfl rfl) (rd_c chX11_sends_9_04 (j := 8) rfl rfl) (rd_c chX11_sends_9_04 (j := 9) rfl rfl) rfl
theorem dX11_sends_154 : decode cX11_sends 154 = .ok (.iinc 4 1, 3) := dk132 (rd_c chX11_sends_9_04 (j := 10) rfl rfl) (rd_c chX11_sends_9_04 (j := 11) rfl rfl) (rd_c chX11_sends_9_04 (j := 12) rfl rfl) rfl
theorem dX11_sends_157 : decode cX11_sends 157 = .ok (.goto (-115), 3) := dk167 (rd_c chX11_sends_9_04 (j := 13) rfl rfl) (rd_c chX11_sends_9_04 (j := 14) rfl rfl) (rd_c chX11_sends_9_04 (j := 15) rfl rfl) rfl
theorem chX11_sends_10_04 : ((cX11_sends.data.toList.drop 160).take 16).map UInt8.toNat = [132, 3, 1, 167, 255, 126, 177] := by decide +kernel
theorem dX11_sends_160 : decode cX11_sends 160 = .ok (.iinc 3 1, 3) := dk132 (rd_c chX11_sends_10_04 (j := 0) rfl rfl) (rd_c chX11_sends_10_04 (j := 1) rfl rfl) (rd_c chX11_sends_10_04 (j := 2) rfl rfl) rfl
theorem dX11_sends_163 : decode cX11_sends 163 = .ok (.goto (-130), 3) := dk167 (rd_c chX11_sends_10_04 (j := 3) rfl rfl) (rd_c chX11_sends_10_04 (j := 4) rfl rfl) (rd_c chX11_sends_10_04 (j := 5) rfl rfl) rfl
theorem dX11_sends_166 : decode cX11_sends 166 = .ok (.return_, 1) := dk177 (rd_c chX11_sends_10_04 (j := 6) rfl rfl)
theorem chX11_makes_0_04 : ((cX11_makes.data.toList.drop 0).take 16).map UInt8.toNat = [42, 180, 0, 27, 42, 180, 0, 179, 27, 79, 42, 180, 0, 30, 42, 180] := by decide +kernel
theorem dX11_makes_0 : decode cX11_makes 0 = .ok (.aload_n 0, 1) := dk42 (rd_c chX11_makes_0_04 (j := 0) rfl rfl)
theorem dX11_makes_1 : decode cX11_makes 1 = .ok (.getfield 27, 3) := dk180 (rd_c chX11_makes_0_04 (j := 1) rfl rfl) (rd_c chX11_makes_0_04 (j := 2) rfl rfl) (rd_c chX11_makes_0_04 (j := 3) rfl rfl) rfl
theorem dX11_makes_4 : decode cX11_makes 4 = .ok (.aload_n 0, 1) := dk42 (rd_c chX11_makes_0_04 (j := 4) rfl rfl)
theorem dX11_makes_5 : decode cX11_makes 5 = .ok (.getfield 179, 3) := dk180 (rd_c chX11_makes_0_04 (j := 5) rfl rfl) (rd_c chX11_makes_0_04 (j := 6) rfl rfl) (rd_c chX11_makes_0_04 (j := 7) rfl rfl) rfl
theorem dX11_makes_8 : decode cX11_makes 8 = .ok (.iload_n 1, 1) := dk27 (rd_c chX11_makes_0_04 (j := 8) rfl rfl)
theorem dX11_makes_9 : decode cX11_makes 9 = .ok (.iastore, 1) := dk79 (rd_c chX11_makes_0_04 (j := 9) rfl rfl)
theorem dX11_makes_10 : decode cX11_makes 10 = .ok (.aload_n 0, 1) := dk42 (rd_c chX11_makes_0_04 (j := 10) rfl rfl)
theorem dX11_makes_11 : decode cX11_makes 11 = .ok (.getfield 30, 3) := dk180 (rd_c chX11_makes_0_04 (j := 11) rfl rfl) (rd_c chX11_makes_0_04 (j := 12) rfl rfl) (rd_c chX11_makes_0_04 (j := 13) rfl rfl) rfl
theorem dX11_makes_14 : decode cX11_makes 14 = .ok (.aload_n 0, 1) := dk42 (rd_c chX11_makes_0_04 (j := 14) rfl rfl)
theorem chX11_makes_1_04 : ((cX11_makes.data.toList.drop 16).take 16).map UInt8.toNat = [0, 179, 28, 79, 42, 180, 0, 33, 42, 180, 0, 179, 29, 79, 42, 180] := by decide +kernel
theorem dX11_makes_15 : decode cX11_makes 15 = .ok (.getfield 179, 3) := dk180 (rd_c chX11_makes_0_04 (j := 15) rfl rfl) (rd_c chX11_makes_1_04 (j := 0) rfl rfl) (rd_c chX11_makes_1_04 (j := 1) rfl rfl) rfl
theorem dX11_makes_18 : decode cX11_makes 18 = .ok (.iload_n 2, 1) := dk28 (rd_c chX11_makes_1_04 (j := 2) rfl rfl)
theorem dX11_makes_19 : decode cX11_makes 19 = .ok (.iastore, 1) := dk79 (rd_c chX11_makes_1_04 (j := 3) rfl rfl)
theorem dX11_makes_20 : decode cX11_makes 20 = .ok (.aload_n 0, 1) := dk42 (rd_c chX11_makes_1_04 (j := 4) rfl rfl)
theorem dX11_makes_21 : decode cX11_makes 21 = .ok (.getfield 33, 3) := dk180 (rd_c chX11_makes_1_04 (j := 5) rfl rfl) (rd_c chX11_makes_1_04 (j := 6) rfl rfl) (rd_c chX11_makes_1_04 (j := 7) rfl rfl) rfl
theorem dX11_makes_24 : decode cX11_makes 24 = .ok (.aload_n 0, 1) := dk42 (rd_c chX11_makes_1_04 (j := 8) rfl rfl)
theorem dX11_makes_25 : decode cX11_makes 25 = .ok (.getfield 179, 3) := dk180 (rd_c chX11_makes_1_04 (j := 9) rfl rfl) (rd_c chX11_makes_1_04 (j := 10) rfl rfl) (rd_c chX11_makes_1_04 (j := 11) rfl rfl) rfl
theorem dX11_makes_28 : decode cX11_makes 28 = .ok (.iload_n 3, 1) := dk29 (rd_c chX11_makes_1_04 (j := 12) rfl rfl)
theorem dX11_makes_29 : decode cX11_makes 29 = .ok (.iastore, 1) := dk79 (rd_c chX11_makes_1_04 (j := 13) rfl rfl)
theorem dX11_makes_30 : decode cX11_makes 30 = .ok (.aload_n 0, 1) := dk42 (rd_c chX11_makes_1_04 (j := 14) rfl rfl)
theorem chX11_makes_2_04 : ((cX11_makes.data.toList.drop 32).take 16).map UInt8.toNat = [0, 36, 42, 180, 0, 179, 42, 180, 0, 167, 79, 42, 180, 0, 39, 42] := by decide +kernel
theorem dX11_makes_31 : decode cX11_makes 31 = .ok (.getfield 36, 3) := dk180 (rd_c chX11_makes_1_04 (j := 15) rfl rfl) (rd_c chX11_makes_2_04 (j := 0) rfl rfl) (rd_c chX11_makes_2_04 (j := 1) rfl rfl) rfl
theorem dX11_makes_34 : decode cX11_makes 34 = .ok (.aload_n 0, 1) := dk42 (rd_c chX11_makes_2_04 (j := 2) rfl rfl)
theorem dX11_makes_35 : decode cX11_makes 35 = .ok (.getfield 179, 3) := dk180 (rd_c chX11_makes_2_04 (j := 3) rfl rfl) (rd_c chX11_makes_2_04 (j := 4) rfl rfl) (rd_c chX11_makes_2_04 (j := 5) rfl rfl) rfl
theorem dX11_makes_38 : decode cX11_makes 38 = .ok (.aload_n 0, 1) := dk42 (rd_c chX11_makes_2_04 (j := 6) rfl rfl)
theorem dX11_makes_39 : decode cX11_makes 39 = .ok (.getfield 167, 3) := dk180 (rd_c chX11_makes_2_04 (j := 7) rfl rfl) (rd_c chX11_makes_2_04 (j := 8) rfl rfl) (rd_c chX11_makes_2_04 (j := 9) rfl rfl) rfl
theorem dX11_makes_42 : decode cX11_makes 42 = .ok (.iastore, 1) := dk79 (rd_c chX11_makes_2_04 (j := 10) rfl rfl)
theorem dX11_makes_43 : decode cX11_makes 43 = .ok (.aload_n 0, 1) := dk42 (rd_c chX11_makes_2_04 (j := 11) rfl rfl)
theorem dX11_makes_44 : decode cX11_makes 44 = .ok (.getfield 39, 3) := dk180 (rd_c chX11_makes_2_04 (j := 12) rfl rfl) (rd_c chX11_makes_2_04 (j := 13) rfl rfl) (rd_c chX11_makes_2_04 (j := 14) rfl rfl) rfl
theorem dX11_makes_47 : decode cX11_makes 47 = .ok (.aload_n 0, 1) := dk42 (rd_c chX11_makes_2_04 (j := 15) rfl rfl)
theorem chX11_makes_3_04 : ((cX11_makes.data.toList.drop 48).take 16).map UInt8.toNat = [180, 0, 179, 21, 4, 79, 42, 89, 180, 0, 179, 4, 96, 181, 0, 179] := by decide +kernel
theorem dX11_makes_48 : decode cX11_makes 48 = .ok (.getfield 179, 3) := dk180 (rd_c chX11_makes_3_04 (j := 0) rfl rfl) (rd_c chX11_makes_3_04 (j := 1) rfl rfl) (rd_c chX11_makes_3_04 (j := 2) rfl rfl) rfl
theorem dX11_makes_51 : decode cX11_makes 51 = .ok (.iload 4, 2) := dk21 (rd_c chX11_makes_3_04 (j := 3) rfl rfl) (rd_c chX11_makes_3_04 (j := 4) rfl rfl)
theorem dX11_makes_53 : decode cX11_makes 53 = .ok (.iastore, 1) := dk79 (rd_c chX11_makes_3_04 (j := 5) rfl rfl)
theorem dX11_makes_54 : decode cX11_makes 54 = .ok (.aload_n 0, 1) := dk42 (rd_c chX11_makes_3_04 (j := 6) rfl rfl)
theorem dX11_makes_55 : decode cX11_makes 55 = .ok (.dup, 1) := dk89 (rd_c chX11_makes_3_04 (j := 7) rfl rfl)
theorem dX11_makes_56 : decode cX11_makes 56 = .ok (.getfield 179, 3) := dk180 (rd_c chX11_makes_3_04 (j := 8) rfl rfl) (rd_c chX11_makes_3_04 (j := 9) rfl rfl) (rd_c chX11_makes_3_04 (j := 10) rfl rfl) rfl
theorem dX11_makes_59 : decode cX11_makes 59 = .ok (.iconst 1, 1) := dk4 (rd_c chX11_makes_3_04 (j := 11) rfl rfl)
theorem dX11_makes_60 : decode cX11_makes 60 = .ok (.iadd, 1) := dk96 (rd_c chX11_makes_3_04 (j := 12) rfl rfl)
theorem dX11_makes_61 : decode cX11_makes 61 = .ok (.putfield 179, 3) := dk181 (rd_c chX11_makes_3_04 (j := 13) rfl rfl) (rd_c chX11_makes_3_04 (j := 14) rfl rfl) (rd_c chX11_makes_3_04 (j := 15) rfl rfl) rfl
theorem chX11_makes_4_04 : ((cX11_makes.data.toList.drop 64).take 16).map UInt8.toNat = [42, 180, 0, 179, 4, 100, 172] := by decide +kernel
theorem dX11_makes_64 : decode cX11_makes 64 = .ok (.aload_n 0, 1) := dk42 (rd_c chX11_makes_4_04 (j := 0) rfl rfl)
theorem dX11_makes_65 : decode cX11_makes 65 = .ok (.getfield 179, 3) := dk180 (rd_c chX11_makes_4_04 (j := 1) rfl rfl) (rd_c chX11_makes_4_04 (j := 2) rfl rfl) (rd_c chX11_makes_4_04 (j := 3) rfl rfl) rfl
theorem dX11_makes_68 : decode cX11_makes 68 = .ok (.iconst 1, 1) := dk4 (rd_c chX11_makes_4_04 (j := 4) rfl rfl)
theorem dX11_makes_69 : decode cX11_makes 69 = .ok (.isub, 1) := dk100 (rd_c chX11_makes_4_04 (j := 5) rfl rfl)
theorem dX11_makes_70 : decode cX11_makes 70 = .ok (.ireturn, 1) := dk172 (rd_c chX11_makes_4_04 (j := 6) rfl rfl)
set_option maxRecDepth 20000 in
theorem ggX11_book_X11_in : GoodIn wsX11_book wsX11_in := goodIn_sub (show ∀ w ∈ wsX11_in, w ∈ wsX11_book from (List.forall_mem_cons.mpr ⟨List.mem_cons_of_mem _ (List.mem_append_left _ (List.mem_of_getElem? (i := 5) rfl)), (fun _ h => absurd h List.not_mem_nil)⟩)) (by decide +kernel)
set_option maxRecDepth 20000 in
theorem gX11_book_X11_in : GoodIn wsX11_book (va_wsS RX11 170 yX11_in wsX11_in) := goodIn_app (goodIn_sub (List.forall_mem_cons.mpr ⟨List.mem_cons_of_mem _ (List.mem_append_left _ (List.mem_of_getElem? (i := 2) rfl)), (List.forall_mem_cons.mpr ⟨List.mem_cons_of_mem _ (List.mem_append_left _ (List.mem_of_getElem? (i := 3) rfl)), (List.forall_mem_cons.mpr ⟨List.mem_cons_of_mem _ (List.mem_append_left _ (List.mem_of_getElem? (i := 4) rfl)), (fun _ h => absurd h List.not_mem_nil)⟩)⟩)⟩) (by decide +kernel)) ggX11_book_X11_in
set_option maxRecDepth 20000 in
theorem ggX11_book_X11_makes : GoodIn wsX11_book wsX11_makes := goodIn_sub (show ∀ w ∈ wsX11_makes, w ∈ wsX11_book from (List.forall_mem_cons.mpr ⟨List.mem_cons_of_mem _ (List.mem_append_left _ (List.mem_of_getElem? (i := 9) rfl)), (gw_a (List.forall_mem_cons.mpr ⟨List.mem_cons_of_mem _ (List.mem_append_left _ (List.mem_of_getElem? (i := 10) rfl)), (List.forall_mem_cons.mpr ⟨List.mem_cons_of_mem _ (List.mem_append_left _ (List.mem_of_getElem? (i := 0) rfl)), (List.forall_mem_cons.mpr ⟨List.mem_cons_of_mem _ (List.mem_append_left _ (List.mem_of_getElem? (i := 11) rfl)), (List.forall_mem_cons.mpr ⟨List.mem_cons_of_mem _ (List.mem_append_left _ (List.mem_of_getElem? (i := 12) rfl)), (List.forall_mem_cons.mpr ⟨List.mem_cons_of_mem _ (List.mem_append_left _ (List.mem_of_getElem? (i := 13) rfl)), (List.forall_mem_cons.mpr ⟨List.mem_cons_of_mem _ (List.mem_append_left _ (List.mem_of_getElem? (i := 14) rfl)), (List.forall_mem_cons.mpr ⟨List.mem_cons_of_mem _ (List.mem_append_left _ (List.mem_of_getElem? (i := 15) rfl)), (fun _ h => absurd h List.not_mem_nil)⟩)⟩)⟩)⟩)⟩)⟩)⟩) (fun _ h => List.mem_cons_of_mem _ (List.mem_append_right _ (h))))⟩)) (by decide +kernel)
set_option maxRecDepth 20000 in
theorem gX11_book_X11_makes : GoodIn wsX11_book (wsV RX11 183 RX11 yX11_makes wsX11_makes) := goodIn_app (goodIn_sub (List.forall_mem_cons.mpr ⟨List.mem_cons_of_mem _ (List.mem_append_left _ (List.mem_of_getElem? (i := 6) rfl)), (List.forall_mem_cons.mpr ⟨List.mem_cons_of_mem _ (List.mem_append_left _ (List.mem_of_getElem? (i := 7) rfl)), (List.forall_mem_cons.mpr ⟨List.mem_cons_of_mem _ (List.mem_append_left _ (List.mem_of_getElem? (i := 8) rfl)), (List.forall_mem_cons.mpr ⟨List.mem_cons_of_mem _ (List.mem_append_left _ (List.mem_of_getElem? (i := 4) rfl)), (fun _ h => absurd h List.not_mem_nil)⟩)⟩)⟩)⟩) (by decide +kernel)) ggX11_book_X11_makes
theorem chX11_book_0_04 : ((cX11_book.data.toList.drop 0).take 16).map UInt8.toNat = [42, 180, 0, 179, 16, 30, 162, 0, 50, 27, 4, 16, 20, 184, 0, 170] := by decide +kernel
theorem dX11_book_0 : decode cX11_book 0 = .ok (.aload_n 0, 1) := dk42 (rd_c chX11_book_0_04 (j := 0) rfl rfl)
theorem dX11_book_1 : decode cX11_book 1 = .ok (.getfield 179, 3) := dk180 (rd_c chX11_book_0_04 (j := 1) rfl rfl) (rd_c chX11_book_0_04 (j := 2) rfl rfl) (rd_c chX11_book_0_04 (j := 3) rfl rfl) rfl
theorem dX11_book_4 : decode cX11_book 4 = .ok (.bipush 30, 2) := dk16 (rd_c chX11_book_0_04 (j := 4) rfl rfl) (rd_c chX11_book_0_04 (j := 5) rfl rfl) rfl
theorem dX11_book_6 : decode cX11_book 6 = .ok (.if_icmp .ge 50, 3) := dk162 (rd_c chX11_book_0_04 (j := 6) rfl rfl) (rd_c chX11_book_0_04 (j := 7) rfl rfl) (rd_c chX11_book_0_04 (j := 8) rfl rfl) rfl
theorem dX11_book_9 : decode cX11_book 9 = .ok (.iload_n 1, 1) := dk27 (rd_c chX11_book_0_04 (j := 9) rfl rfl)
theorem dX11_book_10 : decode cX11_book 10 = .ok (.iconst 1, 1) := dk4 (rd_c chX11_book_0_04 (j := 10) rfl rfl)
theorem dX11_book_11 : decode cX11_book 11 = .ok (.bipush 20, 2) := dk16 (rd_c chX11_book_0_04 (j := 11) rfl rfl) (rd_c chX11_book_0_04 (j := 12) rfl rfl) rfl
theorem dX11_book_13 : decode cX11_book 13 = .ok (.invokestatic 170, 3) := dk184 (rd_c chX11_book_0_04 (j := 13) rfl rfl) (rd_c chX11_book_0_04 (j := 14) rfl rfl) (rd_c chX11_book_0_04 (j := 15) rfl rfl) rfl
theorem chX11_book_1_04 : ((cX11_book.data.toList.drop 16).take 16).map UInt8.toNat = [153, 0, 40, 28, 4, 17, 39, 16, 184, 0, 170, 153, 0, 29, 29, 3] := by decide +kernel
theorem dX11_book_16 : decode cX11_book 16 = .ok (.ifCond .eq 40, 3) := dk153 (rd_c chX11_book_1_04 (j := 0) rfl rfl) (rd_c chX11_book_1_04 (j := 1) rfl rfl) (rd_c chX11_book_1_04 (j := 2) rfl rfl) rfl
theorem dX11_book_19 : decode cX11_book 19 = .ok (.iload_n 2, 1) := dk28 (rd_c chX11_book_1_04 (j := 3) rfl rfl)
theorem dX11_book_20 : decode cX11_book 20 = .ok (.iconst 1, 1) := dk4 (rd_c chX11_book_1_04 (j := 4) rfl rfl)
theorem dX11_book_21 : decode cX11_book 21 = .ok (.sipush 10000, 3) := dk17 (rd_c chX11_book_1_04 (j := 5) rfl rfl) (rd_c chX11_book_1_04 (j := 6) rfl rfl) (rd_c chX11_book_1_04 (j := 7) rfl rfl) rfl
theorem dX11_book_24 : decode cX11_book 24 = .ok (.invokestatic 170, 3) := dk184 (rd_c chX11_book_1_04 (j := 8) rfl rfl) (rd_c chX11_book_1_04 (j := 9) rfl rfl) (rd_c chX11_book_1_04 (j := 10) rfl rfl) rfl
theorem dX11_book_27 : decode cX11_book 27 = .ok (.ifCond .eq 29, 3) := dk153 (rd_c chX11_book_1_04 (j := 11) rfl rfl) (rd_c chX11_book_1_04 (j := 12) rfl rfl) (rd_c chX11_book_1_04 (j := 13) rfl rfl) rfl
theorem dX11_book_30 : decode cX11_book 30 = .ok (.iload_n 3, 1) := dk29 (rd_c chX11_book_1_04 (j := 14) rfl rfl)
theorem dX11_book_31 : decode cX11_book 31 = .ok (.iconst 0, 1) := dk3 (rd_c chX11_book_1_04 (j := 15) rfl rfl)
theorem chX11_book_2_04 : ((cX11_book.data.toList.drop 32).take 16).map UInt8.toNat = [18, 182, 184, 0, 170, 153, 0, 19, 21, 4, 4, 17, 7, 208, 184, 0] := by decide +kernel
theorem dX11_book_32 : decode cX11_book 32 = .ok (.ldc 182, 2) := dk18 (rd_c chX11_book_2_04 (j := 0) rfl rfl) (rd_c chX11_book_2_04 (j := 1) rfl rfl)
theorem dX11_book_34 : decode cX11_book 34 = .ok (.invokestatic 170, 3) := dk184 (rd_c chX11_book_2_04 (j := 2) rfl rfl) (rd_c chX11_book_2_04 (j := 3) rfl rfl) (rd_c chX11_book_2_04 (j := 4) rfl rfl) rfl
theorem dX11_book_37 : decode cX11_book 37 = .ok (.ifCond .eq 19, 3) := dk153 (rd_c chX11_book_2_04 (j := 5) rfl rfl) (rd_c chX11_book_2_04 (j := 6) rfl rfl) (rd_c chX11_book_2_04 (j := 7) rfl rfl) rfl
theorem dX11_book_40 : decode cX11_book 40 = .ok (.iload 4, 2) := dk21 (rd_c chX11_book_2_04 (j := 8) rfl rfl) (rd_c chX11_book_2_04 (j := 9) rfl rfl)
theorem dX11_book_42 : decode cX11_book 42 = .ok (.iconst 1, 1) := dk4 (rd_c chX11_book_2_04 (j := 10) rfl rfl)
theorem dX11_book_43 : decode cX11_book 43 = .ok (.sipush 2000, 3) := dk17 (rd_c chX11_book_2_04 (j := 11) rfl rfl) (rd_c chX11_book_2_04 (j := 12) rfl rfl) (rd_c chX11_book_2_04 (j := 13) rfl rfl) rfl
theorem chX11_book_3_04 : ((cX11_book.data.toList.drop 48).take 16).map UInt8.toNat = [170, 153, 0, 7, 4, 167, 0, 4, 3, 54, 5, 21, 5, 153, 0, 15] := by decide +kernel
theorem dX11_book_46 : decode cX11_book 46 = .ok (.invokestatic 170, 3) := dk184 (rd_c chX11_book_2_04 (j := 14) rfl rfl) (rd_c chX11_book_2_04 (j := 15) rfl rfl) (rd_c chX11_book_3_04 (j := 0) rfl rfl) rfl
theorem dX11_book_49 : decode cX11_book 49 = .ok (.ifCond .eq 7, 3) := dk153 (rd_c chX11_book_3_04 (j := 1) rfl rfl) (rd_c chX11_book_3_04 (j := 2) rfl rfl) (rd_c chX11_book_3_04 (j := 3) rfl rfl) rfl
theorem dX11_book_52 : decode cX11_book 52 = .ok (.iconst 1, 1) := dk4 (rd_c chX11_book_3_04 (j := 4) rfl rfl)
theorem dX11_book_53 : decode cX11_book 53 = .ok (.goto 4, 3) := dk167 (rd_c chX11_book_3_04 (j := 5) rfl rfl) (rd_c chX11_book_3_04 (j := 6) rfl rfl) (rd_c chX11_book_3_04 (j := 7) rfl rfl) rfl
theorem dX11_book_56 : decode cX11_book 56 = .ok (.iconst 0, 1) := dk3 (rd_c chX11_book_3_04 (j := 8) rfl rfl)
theorem dX11_book_57 : decode cX11_book 57 = .ok (.istore 5, 2) := dk54 (rd_c chX11_book_3_04 (j := 9) rfl rfl) (rd_c chX11_book_3_04 (j := 10) rfl rfl)
theorem dX11_book_59 : decode cX11_book 59 = .ok (.iload 5, 2) := dk21 (rd_c chX11_book_3_04 (j := 11) rfl rfl) (rd_c chX11_book_3_04 (j := 12) rfl rfl)
theorem dX11_book_61 : decode cX11_book 61 = .ok (.ifCond .eq 15, 3) := dk153 (rd_c chX11_book_3_04 (j := 13) rfl rfl) (rd_c chX11_book_3_04 (j := 14) rfl rfl) (rd_c chX11_book_3_04 (j := 15) rfl rfl) rfl
theorem chX11_book_4_04 : ((cX11_book.data.toList.drop 64).take 16).map UInt8.toNat = [42, 27, 28, 29, 21, 4, 182, 0, 183, 167, 0, 4, 2, 172] := by decide +kernel
theorem dX11_book_64 : decode cX11_book 64 = .ok (.aload_n 0, 1) := dk42 (rd_c chX11_book_4_04 (j := 0) rfl rfl)
theorem dX11_book_65 : decode cX11_book 65 = .ok (.iload_n 1, 1) := dk27 (rd_c chX11_book_4_04 (j := 1) rfl rfl)
theorem dX11_book_66 : decode cX11_book 66 = .ok (.iload_n 2, 1) := dk28 (rd_c chX11_book_4_04 (j := 2) rfl rfl)
theorem dX11_book_67 : decode cX11_book 67 = .ok (.iload_n 3, 1) := dk29 (rd_c chX11_book_4_04 (j := 3) rfl rfl)
theorem dX11_book_68 : decode cX11_book 68 = .ok (.iload 4, 2) := dk21 (rd_c chX11_book_4_04 (j := 4) rfl rfl) (rd_c chX11_book_4_04 (j := 5) rfl rfl)
theorem dX11_book_70 : decode cX11_book 70 = .ok (.invokevirtual 183, 3) := dk182 (rd_c chX11_book_4_04 (j := 6) rfl rfl) (rd_c chX11_book_4_04 (j := 7) rfl rfl) (rd_c chX11_book_4_04 (j := 8) rfl rfl) rfl
theorem dX11_book_73 : decode cX11_book 73 = .ok (.goto 4, 3) := dk167 (rd_c chX11_book_4_04 (j := 9) rfl rfl) (rd_c chX11_book_4_04 (j := 10) rfl rfl) (rd_c chX11_book_4_04 (j := 11) rfl rfl) rfl
theorem dX11_book_76 : decode cX11_book 76 = .ok (.iconst (-1), 1) := dk2 (rd_c chX11_book_4_04 (j := 12) rfl rfl)
theorem dX11_book_77 : decode cX11_book 77 = .ok (.ireturn, 1) := dk172 (rd_c chX11_book_4_04 (j := 13) rfl rfl)
set_option maxRecDepth 20000 in
theorem ggX11_credit_X11_in : GoodIn wsX11_credit wsX11_in := goodIn_sub (show ∀ w ∈ wsX11_in, w ∈ wsX11_credit from (List.forall_mem_cons.mpr ⟨List.mem_cons_of_mem _ (List.mem_append_left _ (List.mem_of_getElem? (i := 6) rfl)), (fun _ h => absurd h List.not_mem_nil)⟩)) (by decide +kernel)
set_option maxRecDepth 20000 in
theorem gX11_credit_X11_in : GoodIn wsX11_credit (va_wsS RX11 170 yX11_in wsX11_in) := goodIn_app (goodIn_sub (List.forall_mem_cons.mpr ⟨List.mem_cons_of_mem _ (List.mem_append_left _ (List.mem_of_getElem? (i := 3) rfl)), (List.forall_mem_cons.mpr ⟨List.mem_cons_of_mem _ (List.mem_append_left _ (List.mem_of_getElem? (i := 4) rfl)), (List.forall_mem_cons.mpr ⟨List.mem_cons_of_mem _ (List.mem_append_left _ (List.mem_of_getElem? (i := 5) rfl)), (fun _ h => absurd h List.not_mem_nil)⟩)⟩)⟩) (by decide +kernel)) ggX11_credit_X11_in
set_option maxRecDepth 20000 in
theorem ggX11_credit_X11_makes : GoodIn wsX11_credit wsX11_makes := goodIn_sub (show ∀ w ∈ wsX11_makes, w ∈ wsX11_credit from (List.forall_mem_cons.mpr ⟨List.mem_cons_of_mem _ (List.mem_append_left _ (List.mem_of_getElem? (i := 10) rfl)), (gw_a (List.forall_mem_cons.mpr ⟨List.mem_cons_of_mem _ (List.mem_append_left _ (List.mem_of_getElem? (i := 11) rfl)), (List.forall_mem_cons.mpr ⟨List.mem_cons_of_mem _ (List.mem_append_left _ (List.mem_of_getElem? (i := 0) rfl)), (List.forall_mem_cons.mpr ⟨List.mem_cons_of_mem _ (List.mem_append_left _ (List.mem_of_getElem? (i := 12) rfl)), (List.forall_mem_cons.mpr ⟨List.mem_cons_of_mem _ (List.mem_append_left _ (List.mem_of_getElem? (i := 13) rfl)), (List.forall_mem_cons.mpr ⟨List.mem_cons_of_mem _ (List.mem_append_left _ (List.mem_of_getElem? (i := 14) rfl)), (List.forall_mem_cons.mpr ⟨List.mem_cons_of_mem _ (List.mem_append_left _ (List.mem_of_getElem? (i := 15) rfl)), (List.forall_mem_cons.mpr ⟨List.mem_cons_of_mem _ (List.mem_append_left _ (List.mem_of_getElem? (i := 16) rfl)), (fun _ h => absurd h List.not_mem_nil)⟩)⟩)⟩)⟩)⟩)⟩)⟩) (fun _ h => List.mem_cons_of_mem _ (List.mem_append_right _ (h))))⟩)) (by decide +kernel)
set_option maxRecDepth 20000 in
theorem gX11_credit_X11_makes : GoodIn wsX11_credit (wsV RX11 183 RX11 yX11_makes wsX11_makes) := goodIn_app (goodIn_sub (List.forall_mem_cons.mpr ⟨List.mem_cons_of_mem _ (List.mem_append_left _ (List.mem_of_getElem? (i := 7) rfl)), (List.forall_mem_cons.mpr ⟨List.mem_cons_of_mem _ (List.mem_append_left _ (List.mem_of_getElem? (i := 8) rfl)), (List.forall_mem_cons.mpr ⟨List.mem_cons_of_mem _ (List.mem_append_left _ (List.mem_of_getElem? (i := 9) rfl)), (List.forall_mem_cons.mpr ⟨List.mem_cons_of_mem _ (List.mem_append_left _ (List.mem_of_getElem? (i := 5) rfl)), (fun _ h => absurd h List.not_mem_nil)⟩)⟩)⟩)⟩) (by decide +kernel)) ggX11_credit_X11_makes
theorem chX11_credit_0_04 : ((cX11_credit.data.toList.drop 0).take 16).map UInt8.toNat = [42, 180, 0, 179, 16, 30, 162, 0, 38, 27, 4, 18, 178, 184, 0, 170] := by decide +kernel
theorem dX11_credit_0 : decode cX11_credit 0 = .ok (.aload_n 0, 1) := dk42 (rd_c chX11_credit_0_04 (j := 0) rfl rfl)
theorem dX11_credit_1 : decode cX11_credit 1 = .ok (.getfield 179, 3) := dk180 (rd_c chX11_credit_0_04 (j := 1) rfl rfl) (rd_c chX11_credit_0_04 (j := 2) rfl rfl) (rd_c chX11_credit_0_04 (j := 3) rfl rfl) rfl
theorem dX11_credit_4 : decode cX11_credit 4 = .ok (.bipush 30, 2) := dk16 (rd_c chX11_credit_0_04 (j := 4) rfl rfl) (rd_c chX11_credit_0_04 (j := 5) rfl rfl) rfl
theorem dX11_credit_6 : decode cX11_credit 6 = .ok (.if_icmp .ge 38, 3) := dk162 (rd_c chX11_credit_0_04 (j := 6) rfl rfl) (rd_c chX11_credit_0_04 (j := 7) rfl rfl) (rd_c chX11_credit_0_04 (j := 8) rfl rfl) rfl
theorem dX11_credit_9 : decode cX11_credit 9 = .ok (.iload_n 1, 1) := dk27 (rd_c chX11_credit_0_04 (j := 9) rfl rfl)
theorem dX11_credit_10 : decode cX11_credit 10 = .ok (.iconst 1, 1) := dk4 (rd_c chX11_credit_0_04 (j := 10) rfl rfl)
theorem dX11_credit_11 : decode cX11_credit 11 = .ok (.ldc 178, 2) := dk18 (rd_c chX11_credit_0_04 (j := 11) rfl rfl) (rd_c chX11_credit_0_04 (j := 12) rfl rfl)
theorem dX11_credit_13 : decode cX11_credit 13 = .ok (.invokestatic 170, 3) := dk184 (rd_c chX11_credit_0_04 (j := 13) rfl rfl) (rd_c chX11_credit_0_04 (j := 14) rfl rfl) (rd_c chX11_credit_0_04 (j := 15) rfl rfl) rfl
theorem chX11_credit_1_04 : ((cX11_credit.data.toList.drop 16).take 16).map UInt8.toNat = [153, 0, 28, 28, 3, 18, 182, 184, 0, 170, 153, 0, 18, 29, 4, 17] := by decide +kernel
theorem dX11_credit_16 : decode cX11_credit 16 = .ok (.ifCond .eq 28, 3) := dk153 (rd_c chX11_credit_1_04 (j := 0) rfl rfl) (rd_c chX11_credit_1_04 (j := 1) rfl rfl) (rd_c chX11_credit_1_04 (j := 2) rfl rfl) rfl
theorem dX11_credit_19 : decode cX11_credit 19 = .ok (.iload_n 2, 1) := dk28 (rd_c chX11_credit_1_04 (j := 3) rfl rfl)
theorem dX11_credit_20 : decode cX11_credit 20 = .ok (.iconst 0, 1) := dk3 (rd_c chX11_credit_1_04 (j := 4) rfl rfl)
theorem dX11_credit_21 : decode cX11_credit 21 = .ok (.ldc 182, 2) := dk18 (rd_c chX11_credit_1_04 (j := 5) rfl rfl) (rd_c chX11_credit_1_04 (j := 6) rfl rfl)
theorem dX11_credit_23 : decode cX11_credit 23 = .ok (.invokestatic 170, 3) := dk184 (rd_c chX11_credit_1_04 (j := 7) rfl rfl) (rd_c chX11_credit_1_04 (j := 8) rfl rfl) (rd_c chX11_credit_1_04 (j := 9) rfl rfl) rfl
theorem dX11_credit_26 : decode cX11_credit 26 = .ok (.ifCond .eq 18, 3) := dk153 (rd_c chX11_credit_1_04 (j := 10) rfl rfl) (rd_c chX11_credit_1_04 (j := 11) rfl rfl) (rd_c chX11_credit_1_04 (j := 12) rfl rfl) rfl
theorem dX11_credit_29 : decode cX11_credit 29 = .ok (.iload_n 3, 1) := dk29 (rd_c chX11_credit_1_04 (j := 13) rfl rfl)
theorem dX11_credit_30 : decode cX11_credit 30 = .ok (.iconst 1, 1) := dk4 (rd_c chX11_credit_1_04 (j := 14) rfl rfl)
theorem chX11_credit_2_04 : ((cX11_credit.data.toList.drop 32).take 16).map UInt8.toNat = [7, 208, 184, 0, 170, 153, 0, 7, 4, 167, 0, 4, 3, 54, 4, 21] := by decide +kernel
theorem dX11_credit_31 : decode cX11_credit 31 = .ok (.sipush 2000, 3) := dk17 (rd_c chX11_credit_1_04 (j := 15) rfl rfl) (rd_c chX11_credit_2_04 (j := 0) rfl rfl) (rd_c chX11_credit_2_04 (j := 1) rfl rfl) rfl
theorem dX11_credit_34 : decode cX11_credit 34 = .ok (.invokestatic 170, 3) := dk184 (rd_c chX11_credit_2_04 (j := 2) rfl rfl) (rd_c chX11_credit_2_04 (j := 3) rfl rfl) (rd_c chX11_credit_2_04 (j := 4) rfl rfl) rfl
theorem dX11_credit_37 : decode cX11_credit 37 = .ok (.ifCond .eq 7, 3) := dk153 (rd_c chX11_credit_2_04 (j := 5) rfl rfl) (rd_c chX11_credit_2_04 (j := 6) rfl rfl) (rd_c chX11_credit_2_04 (j := 7) rfl rfl) rfl
theorem dX11_credit_40 : decode cX11_credit 40 = .ok (.iconst 1, 1) := dk4 (rd_c chX11_credit_2_04 (j := 8) rfl rfl)
theorem dX11_credit_41 : decode cX11_credit 41 = .ok (.goto 4, 3) := dk167 (rd_c chX11_credit_2_04 (j := 9) rfl rfl) (rd_c chX11_credit_2_04 (j := 10) rfl rfl) (rd_c chX11_credit_2_04 (j := 11) rfl rfl) rfl
theorem dX11_credit_44 : decode cX11_credit 44 = .ok (.iconst 0, 1) := dk3 (rd_c chX11_credit_2_04 (j := 12) rfl rfl)
theorem dX11_credit_45 : decode cX11_credit 45 = .ok (.istore 4, 2) := dk54 (rd_c chX11_credit_2_04 (j := 13) rfl rfl) (rd_c chX11_credit_2_04 (j := 14) rfl rfl)
theorem chX11_credit_3_04 : ((cX11_credit.data.toList.drop 48).take 16).map UInt8.toNat = [4, 153, 0, 14, 42, 3, 27, 28, 29, 182, 0, 183, 167, 0, 4, 2] := by decide +kernel
theorem dX11_credit_47 : decode cX11_credit 47 = .ok (.iload 4, 2) := dk21 (rd_c chX11_credit_2_04 (j := 15) rfl rfl) (rd_c chX11_credit_3_04 (j := 0) rfl rfl)
theorem dX11_credit_49 : decode cX11_credit 49 = .ok (.ifCond .eq 14, 3) := dk153 (rd_c chX11_credit_3_04 (j := 1) rfl rfl) (rd_c chX11_credit_3_04 (j := 2) rfl rfl) (rd_c chX11_credit_3_04 (j := 3) rfl rfl) rfl
theorem dX11_credit_52 : decode cX11_credit 52 = .ok (.aload_n 0, 1) := dk42 (rd_c chX11_credit_3_04 (j := 4) rfl rfl)
theorem dX11_credit_53 : decode cX11_credit 53 = .ok (.iconst 0, 1) := dk3 (rd_c chX11_credit_3_04 (j := 5) rfl rfl)
theorem dX11_credit_54 : decode cX11_credit 54 = .ok (.iload_n 1, 1) := dk27 (rd_c chX11_credit_3_04 (j := 6) rfl rfl)
theorem dX11_credit_55 : decode cX11_credit 55 = .ok (.iload_n 2, 1) := dk28 (rd_c chX11_credit_3_04 (j := 7) rfl rfl)
theorem dX11_credit_56 : decode cX11_credit 56 = .ok (.iload_n 3, 1) := dk29 (rd_c chX11_credit_3_04 (j := 8) rfl rfl)
theorem dX11_credit_57 : decode cX11_credit 57 = .ok (.invokevirtual 183, 3) := dk182 (rd_c chX11_credit_3_04 (j := 9) rfl rfl) (rd_c chX11_credit_3_04 (j := 10) rfl rfl) (rd_c chX11_credit_3_04 (j := 11) rfl rfl) rfl
theorem dX11_credit_60 : decode cX11_credit 60 = .ok (.goto 4, 3) := dk167 (rd_c chX11_credit_3_04 (j := 12) rfl rfl) (rd_c chX11_credit_3_04 (j := 13) rfl rfl) (rd_c chX11_credit_3_04 (j := 14) rfl rfl) rfl
theorem dX11_credit_63 : decode cX11_credit 63 = .ok (.iconst (-1), 1) := dk2 (rd_c chX11_credit_3_04 (j := 15) rfl rfl)
theorem chX11_credit_4_04 : ((cX11_credit.data.toList.drop 64).take 16).map UInt8.toNat = [172] := by decide +kernel
theorem dX11_credit_64 : decode cX11_credit 64 = .ok (.ireturn, 1) := dk172 (rd_c chX11_credit_4_04 (j := 0) rfl rfl)
theorem chX11_unlike_0_04 : ((cX11_unlike.data.toList.drop 0).take 16).map UInt8.toNat = [3, 61, 26, 62, 27, 54, 4, 3, 54, 5, 21, 5, 8, 162, 0, 49] := by decide +kernel
theorem dX11_unlike_0 : decode cX11_unlike 0 = .ok (.iconst 0, 1) := dk3 (rd_c chX11_unlike_0_04 (j := 0) rfl rfl)
theorem dX11_unlike_1 : decode cX11_unlike 1 = .ok (.istore_n 2, 1) := dk61 (rd_c chX11_unlike_0_04 (j := 1) rfl rfl)
theorem dX11_unlike_2 : decode cX11_unlike 2 = .ok (.iload_n 0, 1) := dk26 (rd_c chX11_unlike_0_04 (j := 2) rfl rfl)
theorem dX11_unlike_3 : decode cX11_unlike 3 = .ok (.istore_n 3, 1) := dk62 (rd_c chX11_unlike_0_04 (j := 3) rfl rfl)
theorem dX11_unlike_4 : decode cX11_unlike 4 = .ok (.iload_n 1, 1) := dk27 (rd_c chX11_unlike_0_04 (j := 4) rfl rfl)
theorem dX11_unlike_5 : decode cX11_unlike 5 = .ok (.istore 4, 2) := dk54 (rd_c chX11_unlike_0_04 (j := 5) rfl rfl) (rd_c chX11_unlike_0_04 (j := 6) rfl rfl)
theorem dX11_unlike_7 : decode cX11_unlike 7 = .ok (.iconst 0, 1) := dk3 (rd_c chX11_unlike_0_04 (j := 7) rfl rfl)
theorem dX11_unlike_8 : decode cX11_unlike 8 = .ok (.istore 5, 2) := dk54 (rd_c chX11_unlike_0_04 (j := 8) rfl rfl) (rd_c chX11_unlike_0_04 (j := 9) rfl rfl)
theorem dX11_unlike_10 : decode cX11_unlike 10 = .ok (.iload 5, 2) := dk21 (rd_c chX11_unlike_0_04 (j := 10) rfl rfl) (rd_c chX11_unlike_0_04 (j := 11) rfl rfl)
theorem dX11_unlike_12 : decode cX11_unlike 12 = .ok (.iconst 5, 1) := dk8 (rd_c chX11_unlike_0_04 (j := 12) rfl rfl)
theorem dX11_unlike_13 : decode cX11_unlike 13 = .ok (.if_icmp .ge 49, 3) := dk162 (rd_c chX11_unlike_0_04 (j := 13) rfl rfl) (rd_c chX11_unlike_0_04 (j := 14) rfl rfl) (rd_c chX11_unlike_0_04 (j := 15) rfl rfl) rfl
theorem chX11_unlike_1_04 : ((cX11_unlike.data.toList.drop 16).take 16).map UInt8.toNat = [29, 16, 10, 112, 21, 4, 16, 10, 112, 100, 54, 6, 28, 21, 6, 156] := by decide +kernel
theorem dX11_unlike_16 : decode cX11_unlike 16 = .ok (.iload_n 3, 1) := dk29 (rd_c chX11_unlike_1_04 (j := 0) rfl rfl)
theorem dX11_unlike_17 : decode cX11_unlike 17 = .ok (.bipush 10, 2) := dk16 (rd_c chX11_unlike_1_04 (j := 1) rfl rfl) (rd_c chX11_unlike_1_04 (j := 2) rfl rfl) rfl
theorem dX11_unlike_19 : decode cX11_unlike 19 = .ok (.irem, 1) := dk112 (rd_c chX11_unlike_1_04 (j := 3) rfl rfl)
theorem dX11_unlike_20 : decode cX11_unlike 20 = .ok (.iload 4, 2) := dk21 (rd_c chX11_unlike_1_04 (j := 4) rfl rfl) (rd_c chX11_unlike_1_04 (j := 5) rfl rfl)
theorem dX11_unlike_22 : decode cX11_unlike 22 = .ok (.bipush 10, 2) := dk16 (rd_c chX11_unlike_1_04 (j := 6) rfl rfl) (rd_c chX11_unlike_1_04 (j := 7) rfl rfl) rfl
theorem dX11_unlike_24 : decode cX11_unlike 24 = .ok (.irem, 1) := dk112 (rd_c chX11_unlike_1_04 (j := 8) rfl rfl)
theorem dX11_unlike_25 : decode cX11_unlike 25 = .ok (.isub, 1) := dk100 (rd_c chX11_unlike_1_04 (j := 9) rfl rfl)
theorem dX11_unlike_26 : decode cX11_unlike 26 = .ok (.istore 6, 2) := dk54 (rd_c chX11_unlike_1_04 (j := 10) rfl rfl) (rd_c chX11_unlike_1_04 (j := 11) rfl rfl)
theorem dX11_unlike_28 : decode cX11_unlike 28 = .ok (.iload_n 2, 1) := dk28 (rd_c chX11_unlike_1_04 (j := 12) rfl rfl)
theorem dX11_unlike_29 : decode cX11_unlike 29 = .ok (.iload 6, 2) := dk21 (rd_c chX11_unlike_1_04 (j := 13) rfl rfl) (rd_c chX11_unlike_1_04 (j := 14) rfl rfl)
theorem chX11_unlike_2_04 : ((cX11_unlike.data.toList.drop 32).take 16).map UInt8.toNat = [0, 9, 21, 6, 116, 167, 0, 5, 21, 6, 96, 61, 29, 16, 10, 108] := by decide +kernel
theorem dX11_unlike_31 : decode cX11_unlike 31 = .ok (.ifCond .ge 9, 3) := dk156 (rd_c chX11_unlike_1_04 (j := 15) rfl rfl) (rd_c chX11_unlike_2_04 (j := 0) rfl rfl) (rd_c chX11_unlike_2_04 (j := 1) rfl rfl) rfl
theorem dX11_unlike_34 : decode cX11_unlike 34 = .ok (.iload 6, 2) := dk21 (rd_c chX11_unlike_2_04 (j := 2) rfl rfl) (rd_c chX11_unlike_2_04 (j := 3) rfl rfl)
theorem dX11_unlike_36 : decode cX11_unlike 36 = .ok (.ineg, 1) := dk116 (rd_c chX11_unlike_2_04 (j := 4) rfl rfl)
theorem dX11_unlike_37 : decode cX11_unlike 37 = .ok (.goto 5, 3) := dk167 (rd_c chX11_unlike_2_04 (j := 5) rfl rfl) (rd_c chX11_unlike_2_04 (j := 6) rfl rfl) (rd_c chX11_unlike_2_04 (j := 7) rfl rfl) rfl
theorem dX11_unlike_40 : decode cX11_unlike 40 = .ok (.iload 6, 2) := dk21 (rd_c chX11_unlike_2_04 (j := 8) rfl rfl) (rd_c chX11_unlike_2_04 (j := 9) rfl rfl)
theorem dX11_unlike_42 : decode cX11_unlike 42 = .ok (.iadd, 1) := dk96 (rd_c chX11_unlike_2_04 (j := 10) rfl rfl)
theorem dX11_unlike_43 : decode cX11_unlike 43 = .ok (.istore_n 2, 1) := dk61 (rd_c chX11_unlike_2_04 (j := 11) rfl rfl)
theorem dX11_unlike_44 : decode cX11_unlike 44 = .ok (.iload_n 3, 1) := dk29 (rd_c chX11_unlike_2_04 (j := 12) rfl rfl)
theorem dX11_unlike_45 : decode cX11_unlike 45 = .ok (.bipush 10, 2) := dk16 (rd_c chX11_unlike_2_04 (j := 13) rfl rfl) (rd_c chX11_unlike_2_04 (j := 14) rfl rfl) rfl
theorem dX11_unlike_47 : decode cX11_unlike 47 = .ok (.idiv, 1) := dk108 (rd_c chX11_unlike_2_04 (j := 15) rfl rfl)
theorem chX11_unlike_3_04 : ((cX11_unlike.data.toList.drop 48).take 16).map UInt8.toNat = [62, 21, 4, 16, 10, 108, 54, 4, 132, 5, 1, 167, 255, 207, 28, 172] := by decide +kernel
theorem dX11_unlike_48 : decode cX11_unlike 48 = .ok (.istore_n 3, 1) := dk62 (rd_c chX11_unlike_3_04 (j := 0) rfl rfl)
theorem dX11_unlike_49 : decode cX11_unlike 49 = .ok (.iload 4, 2) := dk21 (rd_c chX11_unlike_3_04 (j := 1) rfl rfl) (rd_c chX11_unlike_3_04 (j := 2) rfl rfl)
theorem dX11_unlike_51 : decode cX11_unlike 51 = .ok (.bipush 10, 2) := dk16 (rd_c chX11_unlike_3_04 (j := 3) rfl rfl) (rd_c chX11_unlike_3_04 (j := 4) rfl rfl) rfl
theorem dX11_unlike_53 : decode cX11_unlike 53 = .ok (.idiv, 1) := dk108 (rd_c chX11_unlike_3_04 (j := 5) rfl rfl)
theorem dX11_unlike_54 : decode cX11_unlike 54 = .ok (.istore 4, 2) := dk54 (rd_c chX11_unlike_3_04 (j := 6) rfl rfl) (rd_c chX11_unlike_3_04 (j := 7) rfl rfl)
theorem dX11_unlike_56 : decode cX11_unlike 56 = .ok (.iinc 5 1, 3) := dk132 (rd_c chX11_unlike_3_04 (j := 8) rfl rfl) (rd_c chX11_unlike_3_04 (j := 9) rfl rfl) (rd_c chX11_unlike_3_04 (j := 10) rfl rfl) rfl
theorem dX11_unlike_59 : decode cX11_unlike 59 = .ok (.goto (-49), 3) := dk167 (rd_c chX11_unlike_3_04 (j := 11) rfl rfl) (rd_c chX11_unlike_3_04 (j := 12) rfl rfl) (rd_c chX11_unlike_3_04 (j := 13) rfl rfl) rfl
theorem dX11_unlike_62 : decode cX11_unlike 62 = .ok (.iload_n 2, 1) := dk28 (rd_c chX11_unlike_3_04 (j := 14) rfl rfl)
theorem dX11_unlike_63 : decode cX11_unlike 63 = .ok (.ireturn, 1) := dk172 (rd_c chX11_unlike_3_04 (j := 15) rfl rfl)
set_option maxRecDepth 20000 in
theorem ggX11_advise_X11_in : GoodIn wsX11_advise wsX11_in := goodIn_sub (show ∀ w ∈ wsX11_in, w ∈ wsX11_advise from (List.forall_mem_cons.mpr ⟨List.mem_cons_of_mem _ (List.mem_append_left _ (List.mem_of_getElem? (i := 11) rfl)), (fun _ h => absurd h List.not_mem_nil)⟩)) (by decide +kernel)
set_option maxRecDepth 20000 in
theorem gX11_advise_X11_in : GoodIn wsX11_advise (va_wsS RX11 170 yX11_in wsX11_in) := goodIn_app (goodIn_sub (List.forall_mem_cons.mpr ⟨List.mem_cons_of_mem _ (List.mem_append_left _ (List.mem_of_getElem? (i := 8) rfl)), (List.forall_mem_cons.mpr ⟨List.mem_cons_of_mem _ (List.mem_append_left _ (List.mem_of_getElem? (i := 9) rfl)), (List.forall_mem_cons.mpr ⟨List.mem_cons_of_mem _ (List.mem_append_left _ (List.mem_of_getElem? (i := 10) rfl)), (fun _ h => absurd h List.not_mem_nil)⟩)⟩)⟩) (by decide +kernel)) ggX11_advise_X11_in
set_option maxRecDepth 20000 in
theorem ggX11_advise_X11_isTown : GoodIn wsX11_advise wsX11_isTown := goodIn_sub (show ∀ w ∈ wsX11_isTown, w ∈ wsX11_advise from (List.forall_mem_cons.mpr ⟨List.mem_cons_of_mem _ (List.mem_append_left _ (List.mem_of_getElem? (i := 14) rfl)), (fun _ h => absurd h List.not_mem_nil)⟩)) (by decide +kernel)
set_option maxRecDepth 20000 in
theorem gX11_advise_X11_isTown : GoodIn wsX11_advise (va_wsS RX11 174 yX11_isTown wsX11_isTown) := goodIn_app (goodIn_sub (List.forall_mem_cons.mpr ⟨List.mem_cons_of_mem _ (List.mem_append_left _ (List.mem_of_getElem? (i := 12) rfl)), (List.forall_mem_cons.mpr ⟨List.mem_cons_of_mem _ (List.mem_append_left _ (List.mem_of_getElem? (i := 13) rfl)), (List.forall_mem_cons.mpr ⟨List.mem_cons_of_mem _ (List.mem_append_left _ (List.mem_of_getElem? (i := 10) rfl)), (fun _ h => absurd h List.not_mem_nil)⟩)⟩)⟩) (by decide +kernel)) ggX11_advise_X11_isTown
set_option maxRecDepth 20000 in
theorem ggX11_advise_X11_sends : GoodIn wsX11_advise wsX11_sends := goodIn_sub (show ∀ w ∈ wsX11_sends, w ∈ wsX11_advise from (List.forall_mem_cons.mpr ⟨List.mem_cons_of_mem _ (List.mem_append_left _ (List.mem_of_getElem? (i := 18) rfl)), (gw_a (List.forall_mem_cons.mpr ⟨List.mem_cons_of_mem _ (List.mem_append_left _ (List.mem_of_getElem? (i := 5) rfl)), (List.forall_mem_cons.mpr ⟨List.mem_cons_of_mem _ (List.mem_append_left _ (List.mem_of_getElem? (i := 6) rfl)), (List.forall_mem_cons.mpr ⟨List.mem_cons_of_mem _ (List.mem_append_left _ (List.mem_of_getElem? (i := 19) rfl)), (List.forall_mem_cons.mpr ⟨List.mem_cons_of_mem _ (List.mem_append_left _ (List.mem_of_getElem? (i := 20) rfl)), (fun _ h => absurd h List.not_mem_nil)⟩)⟩)⟩)⟩) (fun _ h => List.mem_cons_of_mem _ (List.mem_append_right _ (h))))⟩)) (by decide +kernel)
set_option maxRecDepth 20000 in
theorem gX11_advise_X11_sends : GoodIn wsX11_advise (wsV RX11 190 RX11 yX11_sends wsX11_sends) := goodIn_app (goodIn_sub (List.forall_mem_cons.mpr ⟨List.mem_cons_of_mem _ (List.mem_append_left _ (List.mem_of_getElem? (i := 15) rfl)), (List.forall_mem_cons.mpr ⟨List.mem_cons_of_mem _ (List.mem_append_left _ (List.mem_of_getElem? (i := 16) rfl)), (List.forall_mem_cons.mpr ⟨List.mem_cons_of_mem _ (List.mem_append_left _ (List.mem_of_getElem? (i := 17) rfl)), (List.forall_mem_cons.mpr ⟨List.mem_cons_of_mem _ (List.mem_append_left _ (List.mem_of_getElem? (i := 10) rfl)), (fun _ h => absurd h List.not_mem_nil)⟩)⟩)⟩)⟩) (by decide +kernel)) ggX11_advise_X11_sends
theorem chX11_advise_0_04 : ((cX11_advise.data.toList.drop 0).take 16).map UInt8.toNat = [42, 180, 0, 187, 16, 60, 159, 0, 24, 27, 3, 42, 180, 0, 179, 4] := by decide +kernel
theorem dX11_advise_0 : decode cX11_advise 0 = .ok (.aload_n 0, 1) := dk42 (rd_c chX11_advise_0_04 (j := 0) rfl rfl)
theorem dX11_advise_1 : decode cX11_advise 1 = .ok (.getfield 187, 3) := dk180 (rd_c chX11_advise_0_04 (j := 1) rfl rfl) (rd_c chX11_advise_0_04 (j := 2) rfl rfl) (rd_c chX11_advise_0_04 (j := 3) rfl rfl) rfl
theorem dX11_advise_4 : decode cX11_advise 4 = .ok (.bipush 60, 2) := dk16 (rd_c chX11_advise_0_04 (j := 4) rfl rfl) (rd_c chX11_advise_0_04 (j := 5) rfl rfl) rfl
theorem dX11_advise_6 : decode cX11_advise 6 = .ok (.if_icmp .eq 24, 3) := dk159 (rd_c chX11_advise_0_04 (j := 6) rfl rfl) (rd_c chX11_advise_0_04 (j := 7) rfl rfl) (rd_c chX11_advise_0_04 (j := 8) rfl rfl) rfl
theorem dX11_advise_9 : decode cX11_advise 9 = .ok (.iload_n 1, 1) := dk27 (rd_c chX11_advise_0_04 (j := 9) rfl rfl)
theorem dX11_advise_10 : decode cX11_advise 10 = .ok (.iconst 0, 1) := dk3 (rd_c chX11_advise_0_04 (j := 10) rfl rfl)
theorem dX11_advise_11 : decode cX11_advise 11 = .ok (.aload_n 0, 1) := dk42 (rd_c chX11_advise_0_04 (j := 11) rfl rfl)
theorem dX11_advise_12 : decode cX11_advise 12 = .ok (.getfield 179, 3) := dk180 (rd_c chX11_advise_0_04 (j := 12) rfl rfl) (rd_c chX11_advise_0_04 (j := 13) rfl rfl) (rd_c chX11_advise_0_04 (j := 14) rfl rfl) rfl
theorem dX11_advise_15 : decode cX11_advise 15 = .ok (.iconst 1, 1) := dk4 (rd_c chX11_advise_0_04 (j := 15) rfl rfl)
theorem chX11_advise_1_04 : ((cX11_advise.data.toList.drop 16).take 16).map UInt8.toNat = [100, 184, 0, 170, 153, 0, 10, 28, 184, 0, 174, 154, 0, 5, 2, 172] := by decide +kernel
theorem dX11_advise_16 : decode cX11_advise 16 = .ok (.isub, 1) := dk100 (rd_c chX11_advise_1_04 (j := 0) rfl rfl)
theorem dX11_advise_17 : decode cX11_advise 17 = .ok (.invokestatic 170, 3) := dk184 (rd_c chX11_advise_1_04 (j := 1) rfl rfl) (rd_c chX11_advise_1_04 (j := 2) rfl rfl) (rd_c chX11_advise_1_04 (j := 3) rfl rfl) rfl
theorem dX11_advise_20 : decode cX11_advise 20 = .ok (.ifCond .eq 10, 3) := dk153 (rd_c chX11_advise_1_04 (j := 4) rfl rfl) (rd_c chX11_advise_1_04 (j := 5) rfl rfl) (rd_c chX11_advise_1_04 (j := 6) rfl rfl) rfl
theorem dX11_advise_23 : decode cX11_advise 23 = .ok (.iload_n 2, 1) := dk28 (rd_c chX11_advise_1_04 (j := 7) rfl rfl)
theorem dX11_advise_24 : decode cX11_advise 24 = .ok (.invokestatic 174, 3) := dk184 (rd_c chX11_advise_1_04 (j := 8) rfl rfl) (rd_c chX11_advise_1_04 (j := 9) rfl rfl) (rd_c chX11_advise_1_04 (j := 10) rfl rfl) rfl
theorem dX11_advise_27 : decode cX11_advise 27 = .ok (.ifCond .ne 5, 3) := dk154 (rd_c chX11_advise_1_04 (j := 11) rfl rfl) (rd_c chX11_advise_1_04 (j := 12) rfl rfl) (rd_c chX11_advise_1_04 (j := 13) rfl rfl) rfl
theorem dX11_advise_30 : decode cX11_advise 30 = .ok (.iconst (-1), 1) := dk2 (rd_c chX11_advise_1_04 (j := 14) rfl rfl)
theorem dX11_advise_31 : decode cX11_advise 31 = .ok (.ireturn, 1) := dk172 (rd_c chX11_advise_1_04 (j := 15) rfl rfl)
theorem chX11_advise_2_04 : ((cX11_advise.data.toList.drop 32).take 16).map UInt8.toNat = [42, 3, 3, 182, 0, 190, 42, 180, 0, 48, 42, 180, 0, 187, 27, 79] := by decide +kernel
theorem dX11_advise_32 : decode cX11_advise 32 = .ok (.aload_n 0, 1) := dk42 (rd_c chX11_advise_2_04 (j := 0) rfl rfl)
theorem dX11_advise_33 : decode cX11_advise 33 = .ok (.iconst 0, 1) := dk3 (rd_c chX11_advise_2_04 (j := 1) rfl rfl)
theorem dX11_advise_34 : decode cX11_advise 34 = .ok (.iconst 0, 1) := dk3 (rd_c chX11_advise_2_04 (j := 2) rfl rfl)
theorem dX11_advise_35 : decode cX11_advise 35 = .ok (.invokevirtual 190, 3) := dk182 (rd_c chX11_advise_2_04 (j := 3) rfl rfl) (rd_c chX11_advise_2_04 (j := 4) rfl rfl) (rd_c chX11_advise_2_04 (j := 5) rfl rfl) rfl
theorem dX11_advise_38 : decode cX11_advise 38 = .ok (.aload_n 0, 1) := dk42 (rd_c chX11_advise_2_04 (j := 6) rfl rfl)
theorem dX11_advise_39 : decode cX11_advise 39 = .ok (.getfield 48, 3) := dk180 (rd_c chX11_advise_2_04 (j := 7) rfl rfl) (rd_c chX11_advise_2_04 (j := 8) rfl rfl) (rd_c chX11_advise_2_04 (j := 9) rfl rfl) rfl
theorem dX11_advise_42 : decode cX11_advise 42 = .ok (.aload_n 0, 1) := dk42 (rd_c chX11_advise_2_04 (j := 10) rfl rfl)
theorem dX11_advise_43 : decode cX11_advise 43 = .ok (.getfield 187, 3) := dk180 (rd_c chX11_advise_2_04 (j := 11) rfl rfl) (rd_c chX11_advise_2_04 (j := 12) rfl rfl) (rd_c chX11_advise_2_04 (j := 13) rfl rfl) rfl
theorem dX11_advise_46 : decode cX11_advise 46 = .ok (.iload_n 1, 1) := dk27 (rd_c chX11_advise_2_04 (j := 14) rfl rfl)
theorem dX11_advise_47 : decode cX11_advise 47 = .ok (.iastore, 1) := dk79 (rd_c chX11_advise_2_04 (j := 15) rfl rfl)
theorem chX11_advise_3_04 : ((cX11_advise.data.toList.drop 48).take 16).map UInt8.toNat = [42, 180, 0, 51, 42, 180, 0, 187, 28, 79, 42, 180, 0, 54, 42, 180] := by decide +kernel
theorem dX11_advise_48 : decode cX11_advise 48 = .ok (.aload_n 0, 1) := dk42 (rd_c chX11_advise_3_04 (j := 0) rfl rfl)
theorem dX11_advise_49 : decode cX11_advise 49 = .ok (.getfield 51, 3) := dk180 (rd_c chX11_advise_3_04 (j := 1) rfl rfl) (rd_c chX11_advise_3_04 (j := 2) rfl rfl) (rd_c chX11_advise_3_04 (j := 3) rfl rfl) rfl
theorem dX11_advise_52 : decode cX11_advise 52 = .ok (.aload_n 0, 1) := dk42 (rd_c chX11_advise_3_04 (j := 4) rfl rfl)
theorem dX11_advise_53 : decode cX11_advise 53 = .ok (.getfield 187, 3) := dk180 (rd_c chX11_advise_3_04 (j := 5) rfl rfl) (rd_c chX11_advise_3_04 (j := 6) rfl rfl) (rd_c chX11_advise_3_04 (j := 7) rfl rfl) rfl
theorem dX11_advise_56 : decode cX11_advise 56 = .ok (.iload_n 2, 1) := dk28 (rd_c chX11_advise_3_04 (j := 8) rfl rfl)
theorem dX11_advise_57 : decode cX11_advise 57 = .ok (.iastore, 1) := dk79 (rd_c chX11_advise_3_04 (j := 9) rfl rfl)
theorem dX11_advise_58 : decode cX11_advise 58 = .ok (.aload_n 0, 1) := dk42 (rd_c chX11_advise_3_04 (j := 10) rfl rfl)
theorem dX11_advise_59 : decode cX11_advise 59 = .ok (.getfield 54, 3) := dk180 (rd_c chX11_advise_3_04 (j := 11) rfl rfl) (rd_c chX11_advise_3_04 (j := 12) rfl rfl) (rd_c chX11_advise_3_04 (j := 13) rfl rfl) rfl
theorem dX11_advise_62 : decode cX11_advise 62 = .ok (.aload_n 0, 1) := dk42 (rd_c chX11_advise_3_04 (j := 14) rfl rfl)
theorem chX11_advise_4_04 : ((cX11_advise.data.toList.drop 64).take 16).map UInt8.toNat = [0, 187, 42, 180, 0, 24, 28, 46, 18, 159, 160, 0, 8, 18, 159, 167] := by decide +kernel
theorem dX11_advise_63 : decode cX11_advise 63 = .ok (.getfield 187, 3) := dk180 (rd_c chX11_advise_3_04 (j := 15) rfl rfl) (rd_c chX11_advise_4_04 (j := 0) rfl rfl) (rd_c chX11_advise_4_04 (j := 1) rfl rfl) rfl
theorem dX11_advise_66 : decode cX11_advise 66 = .ok (.aload_n 0, 1) := dk42 (rd_c chX11_advise_4_04 (j := 2) rfl rfl)
theorem dX11_advise_67 : decode cX11_advise 67 = .ok (.getfield 24, 3) := dk180 (rd_c chX11_advise_4_04 (j := 3) rfl rfl) (rd_c chX11_advise_4_04 (j := 4) rfl rfl) (rd_c chX11_advise_4_04 (j := 5) rfl rfl) rfl
theorem dX11_advise_70 : decode cX11_advise 70 = .ok (.iload_n 2, 1) := dk28 (rd_c chX11_advise_4_04 (j := 6) rfl rfl)
theorem dX11_advise_71 : decode cX11_advise 71 = .ok (.iaload, 1) := dk46 (rd_c chX11_advise_4_04 (j := 7) rfl rfl)
theorem dX11_advise_72 : decode cX11_advise 72 = .ok (.ldc 159, 2) := dk18 (rd_c chX11_advise_4_04 (j := 8) rfl rfl) (rd_c chX11_advise_4_04 (j := 9) rfl rfl)
theorem dX11_advise_74 : decode cX11_advise 74 = .ok (.if_icmp .ne 8, 3) := dk160 (rd_c chX11_advise_4_04 (j := 10) rfl rfl) (rd_c chX11_advise_4_04 (j := 11) rfl rfl) (rd_c chX11_advise_4_04 (j := 12) rfl rfl) rfl
theorem dX11_advise_77 : decode cX11_advise 77 = .ok (.ldc 159, 2) := dk18 (rd_c chX11_advise_4_04 (j := 13) rfl rfl) (rd_c chX11_advise_4_04 (j := 14) rfl rfl)
theorem chX11_advise_5_04 : ((cX11_advise.data.toList.drop 80).take 16).map UInt8.toNat = [0, 14, 42, 180, 0, 167, 42, 180, 0, 24, 28, 46, 96, 79, 42, 89] := by decide +kernel
theorem dX11_advise_79 : decode cX11_advise 79 = .ok (.goto 14, 3) := dk167 (rd_c chX11_advise_4_04 (j := 15) rfl rfl) (rd_c chX11_advise_5_04 (j := 0) rfl rfl) (rd_c chX11_advise_5_04 (j := 1) rfl rfl) rfl
theorem dX11_advise_82 : decode cX11_advise 82 = .ok (.aload_n 0, 1) := dk42 (rd_c chX11_advise_5_04 (j := 2) rfl rfl)
theorem dX11_advise_83 : decode cX11_advise 83 = .ok (.getfield 167, 3) := dk180 (rd_c chX11_advise_5_04 (j := 3) rfl rfl) (rd_c chX11_advise_5_04 (j := 4) rfl rfl) (rd_c chX11_advise_5_04 (j := 5) rfl rfl) rfl
theorem dX11_advise_86 : decode cX11_advise 86 = .ok (.aload_n 0, 1) := dk42 (rd_c chX11_advise_5_04 (j := 6) rfl rfl)
theorem dX11_advise_87 : decode cX11_advise 87 = .ok (.getfield 24, 3) := dk180 (rd_c chX11_advise_5_04 (j := 7) rfl rfl) (rd_c chX11_advise_5_04 (j := 8) rfl rfl) (rd_c chX11_advise_5_04 (j := 9) rfl rfl) rfl
theorem dX11_advise_90 : decode cX11_advise 90 = .ok (.iload_n 2, 1) := dk28 (rd_c chX11_advise_5_04 (j := 10) rfl rfl)
theorem dX11_advise_91 : decode cX11_advise 91 = .ok (.iaload, 1) := dk46 (rd_c chX11_advise_5_04 (j := 11) rfl rfl)
theorem dX11_advise_92 : decode cX11_advise 92 = .ok (.iadd, 1) := dk96 (rd_c chX11_advise_5_04 (j := 12) rfl rfl)
theorem dX11_advise_93 : decode cX11_advise 93 = .ok (.iastore, 1) := dk79 (rd_c chX11_advise_5_04 (j := 13) rfl rfl)
theorem dX11_advise_94 : decode cX11_advise 94 = .ok (.aload_n 0, 1) := dk42 (rd_c chX11_advise_5_04 (j := 14) rfl rfl)
theorem dX11_advise_95 : decode cX11_advise 95 = .ok (.dup, 1) := dk89 (rd_c chX11_advise_5_04 (j := 15) rfl rfl)
theorem chX11_advise_6_04 : ((cX11_advise.data.toList.drop 96).take 16).map UInt8.toNat = [180, 0, 187, 4, 96, 181, 0, 187, 42, 180, 0, 187, 4, 100, 172] := by decide +kernel
theorem dX11_advise_96 : decode cX11_advise 96 = .ok (.getfield 187, 3) := dk180 (rd_c chX11_advise_6_04 (j := 0) rfl rfl) (rd_c chX11_advise_6_04 (j := 1) rfl rfl) (rd_c chX11_advise_6_04 (j := 2) rfl rfl) rfl
theorem dX11_advise_99 : decode cX11_advise 99 = .ok (.iconst 1, 1) := dk4 (rd_c chX11_advise_6_04 (j := 3) rfl rfl)
theorem dX11_advise_100 : decode cX11_advise 100 = .ok (.iadd, 1) := dk96 (rd_c chX11_advise_6_04 (j := 4) rfl rfl)
theorem dX11_advise_101 : decode cX11_advise 101 = .ok (.putfield 187, 3) := dk181 (rd_c chX11_advise_6_04 (j := 5) rfl rfl) (rd_c chX11_advise_6_04 (j := 6) rfl rfl) (rd_c chX11_advise_6_04 (j := 7) rfl rfl) rfl
theorem dX11_advise_104 : decode cX11_advise 104 = .ok (.aload_n 0, 1) := dk42 (rd_c chX11_advise_6_04 (j := 8) rfl rfl)
theorem dX11_advise_105 : decode cX11_advise 105 = .ok (.getfield 187, 3) := dk180 (rd_c chX11_advise_6_04 (j := 9) rfl rfl) (rd_c chX11_advise_6_04 (j := 10) rfl rfl) (rd_c chX11_advise_6_04 (j := 11) rfl rfl) rfl
theorem dX11_advise_108 : decode cX11_advise 108 = .ok (.iconst 1, 1) := dk4 (rd_c chX11_advise_6_04 (j := 12) rfl rfl)
theorem dX11_advise_109 : decode cX11_advise 109 = .ok (.isub, 1) := dk100 (rd_c chX11_advise_6_04 (j := 13) rfl rfl)
theorem dX11_advise_110 : decode cX11_advise 110 = .ok (.ireturn, 1) := dk172 (rd_c chX11_advise_6_04 (j := 14) rfl rfl)
set_option maxRecDepth 20000 in
theorem ggX11_lose_X11_in : GoodIn wsX11_lose wsX11_in := goodIn_sub (show ∀ w ∈ wsX11_in, w ∈ wsX11_lose from (List.forall_mem_cons.mpr ⟨List.mem_cons_of_mem _ (List.mem_append_left _ (List.mem_of_getElem? (i := 7) rfl)), (fun _ h => absurd h List.not_mem_nil)⟩)) (by decide +kernel)
set_option maxRecDepth 20000 in
theorem gX11_lose_X11_in : GoodIn wsX11_lose (va_wsS RX11 170 yX11_in wsX11_in) := goodIn_app (goodIn_sub (List.forall_mem_cons.mpr ⟨List.mem_cons_of_mem _ (List.mem_append_left _ (List.mem_of_getElem? (i := 4) rfl)), (List.forall_mem_cons.mpr ⟨List.mem_cons_of_mem _ (List.mem_append_left _ (List.mem_of_getElem? (i := 5) rfl)), (List.forall_mem_cons.mpr ⟨List.mem_cons_of_mem _ (List.mem_append_left _ (List.mem_of_getElem? (i := 6) rfl)), (fun _ h => absurd h List.not_mem_nil)⟩)⟩)⟩) (by decide +kernel)) ggX11_lose_X11_in
theorem chX11_lose_0_04 : ((cX11_lose.data.toList.drop 0).take 16).map UInt8.toNat = [27, 3, 42, 180, 0, 187, 4, 100, 184, 0, 170, 153, 0, 25, 42, 180] := by decide +kernel
theorem dX11_lose_0 : decode cX11_lose 0 = .ok (.iload_n 1, 1) := dk27 (rd_c chX11_lose_0_04 (j := 0) rfl rfl)
theorem dX11_lose_1 : decode cX11_lose 1 = .ok (.iconst 0, 1) := dk3 (rd_c chX11_lose_0_04 (j := 1) rfl rfl)
theorem dX11_lose_2 : decode cX11_lose 2 = .ok (.aload_n 0, 1) := dk42 (rd_c chX11_lose_0_04 (j := 2) rfl rfl)
theorem dX11_lose_3 : decode cX11_lose 3 = .ok (.getfield 187, 3) := dk180 (rd_c chX11_lose_0_04 (j := 3) rfl rfl) (rd_c chX11_lose_0_04 (j := 4) rfl rfl) (rd_c chX11_lose_0_04 (j := 5) rfl rfl) rfl
theorem dX11_lose_6 : decode cX11_lose 6 = .ok (.iconst 1, 1) := dk4 (rd_c chX11_lose_0_04 (j := 6) rfl rfl)
theorem dX11_lose_7 : decode cX11_lose 7 = .ok (.isub, 1) := dk100 (rd_c chX11_lose_0_04 (j := 7) rfl rfl)
theorem dX11_lose_8 : decode cX11_lose 8 = .ok (.invokestatic 170, 3) := dk184 (rd_c chX11_lose_0_04 (j := 8) rfl rfl) (rd_c chX11_lose_0_04 (j := 9) rfl rfl) (rd_c chX11_lose_0_04 (j := 10) rfl rfl) rfl
theorem dX11_lose_11 : decode cX11_lose 11 = .ok (.ifCond .eq 25, 3) := dk153 (rd_c chX11_lose_0_04 (j := 11) rfl rfl) (rd_c chX11_lose_0_04 (j := 12) rfl rfl) (rd_c chX11_lose_0_04 (j := 13) rfl rfl) rfl
theorem dX11_lose_14 : decode cX11_lose 14 = .ok (.aload_n 0, 1) := dk42 (rd_c chX11_lose_0_04 (j := 14) rfl rfl)
theorem chX11_lose_1_04 : ((cX11_lose.data.toList.drop 16).take 16).map UInt8.toNat = [0, 57, 27, 51, 154, 0, 16, 42, 180, 0, 54, 27, 46, 42, 180, 0] := by decide +kernel
theorem dX11_lose_15 : decode cX11_lose 15 = .ok (.getfield 57, 3) := dk180 (rd_c chX11_lose_0_04 (j := 15) rfl rfl) (rd_c chX11_lose_1_04 (j := 0) rfl rfl) (rd_c chX11_lose_1_04 (j := 1) rfl rfl) rfl
theorem dX11_lose_18 : decode cX11_lose 18 = .ok (.iload_n 1, 1) := dk27 (rd_c chX11_lose_1_04 (j := 2) rfl rfl)
theorem dX11_lose_19 : decode cX11_lose 19 = .ok (.baload, 1) := dk51 (rd_c chX11_lose_1_04 (j := 3) rfl rfl)
theorem dX11_lose_20 : decode cX11_lose 20 = .ok (.ifCond .ne 16, 3) := dk154 (rd_c chX11_lose_1_04 (j := 4) rfl rfl) (rd_c chX11_lose_1_04 (j := 5) rfl rfl) (rd_c chX11_lose_1_04 (j := 6) rfl rfl) rfl
theorem dX11_lose_23 : decode cX11_lose 23 = .ok (.aload_n 0, 1) := dk42 (rd_c chX11_lose_1_04 (j := 7) rfl rfl)
theorem dX11_lose_24 : decode cX11_lose 24 = .ok (.getfield 54, 3) := dk180 (rd_c chX11_lose_1_04 (j := 8) rfl rfl) (rd_c chX11_lose_1_04 (j := 9) rfl rfl) (rd_c chX11_lose_1_04 (j := 10) rfl rfl) rfl
theorem dX11_lose_27 : decode cX11_lose 27 = .ok (.iload_n 1, 1) := dk27 (rd_c chX11_lose_1_04 (j := 11) rfl rfl)
theorem dX11_lose_28 : decode cX11_lose 28 = .ok (.iaload, 1) := dk46 (rd_c chX11_lose_1_04 (j := 12) rfl rfl)
theorem dX11_lose_29 : decode cX11_lose 29 = .ok (.aload_n 0, 1) := dk42 (rd_c chX11_lose_1_04 (j := 13) rfl rfl)
theorem chX11_lose_2_04 : ((cX11_lose.data.toList.drop 32).take 16).map UInt8.toNat = [167, 163, 0, 5, 3, 172, 42, 180, 0, 57, 27, 4, 84, 4, 172] := by decide +kernel
theorem dX11_lose_30 : decode cX11_lose 30 = .ok (.getfield 167, 3) := dk180 (rd_c chX11_lose_1_04 (j := 14) rfl rfl) (rd_c chX11_lose_1_04 (j := 15) rfl rfl) (rd_c chX11_lose_2_04 (j := 0) rfl rfl) rfl
theorem dX11_lose_33 : decode cX11_lose 33 = .ok (.if_icmp .gt 5, 3) := dk163 (rd_c chX11_lose_2_04 (j := 1) rfl rfl) (rd_c chX11_lose_2_04 (j := 2) rfl rfl) (rd_c chX11_lose_2_04 (j := 3) rfl rfl) rfl
theorem dX11_lose_36 : decode cX11_lose 36 = .ok (.iconst 0, 1) := dk3 (rd_c chX11_lose_2_04 (j := 4) rfl rfl)
theorem dX11_lose_37 : decode cX11_lose 37 = .ok (.ireturn, 1) := dk172 (rd_c chX11_lose_2_04 (j := 5) rfl rfl)
theorem dX11_lose_38 : decode cX11_lose 38 = .ok (.aload_n 0, 1) := dk42 (rd_c chX11_lose_2_04 (j := 6) rfl rfl)
theorem dX11_lose_39 : decode cX11_lose 39 = .ok (.getfield 57, 3) := dk180 (rd_c chX11_lose_2_04 (j := 7) rfl rfl) (rd_c chX11_lose_2_04 (j := 8) rfl rfl) (rd_c chX11_lose_2_04 (j := 9) rfl rfl) rfl
theorem dX11_lose_42 : decode cX11_lose 42 = .ok (.iload_n 1, 1) := dk27 (rd_c chX11_lose_2_04 (j := 10) rfl rfl)
theorem dX11_lose_43 : decode cX11_lose 43 = .ok (.iconst 1, 1) := dk4 (rd_c chX11_lose_2_04 (j := 11) rfl rfl)
theorem dX11_lose_44 : decode cX11_lose 44 = .ok (.bastore, 1) := dk84 (rd_c chX11_lose_2_04 (j := 12) rfl rfl)
theorem dX11_lose_45 : decode cX11_lose 45 = .ok (.iconst 1, 1) := dk4 (rd_c chX11_lose_2_04 (j := 13) rfl rfl)
theorem dX11_lose_46 : decode cX11_lose 46 = .ok (.ireturn, 1) := dk172 (rd_c chX11_lose_2_04 (j := 14) rfl rfl)
set_option maxRecDepth 20000 in
theorem ggX11_stop_X11_in : GoodIn wsX11_stop wsX11_in := goodIn_sub (show ∀ w ∈ wsX11_in, w ∈ wsX11_stop from (List.forall_mem_cons.mpr ⟨List.mem_cons_of_mem _ (List.mem_append_left _ (List.mem_of_getElem? (i := 12) rfl)), (fun _ h => absurd h List.not_mem_nil)⟩)) (by decide +kernel)
set_option maxRecDepth 20000 in
theorem gX11_stop_X11_in : GoodIn wsX11_stop (va_wsS RX11 170 yX11_in wsX11_in) := goodIn_app (goodIn_sub (List.forall_mem_cons.mpr ⟨List.mem_cons_of_mem _ (List.mem_append_left _ (List.mem_of_getElem? (i := 9) rfl)), (List.forall_mem_cons.mpr ⟨List.mem_cons_of_mem _ (List.mem_append_left _ (List.mem_of_getElem? (i := 10) rfl)), (List.forall_mem_cons.mpr ⟨List.mem_cons_of_mem _ (List.mem_append_left _ (List.mem_of_getElem? (i := 11) rfl)), (fun _ h => absurd h List.not_mem_nil)⟩)⟩)⟩) (by decide +kernel)) ggX11_stop_X11_in
set_option maxRecDepth 20000 in
theorem ggX11_stop_X11_isTown : GoodIn wsX11_stop wsX11_isTown := goodIn_sub (show ∀ w ∈ wsX11_isTown, w ∈ wsX11_stop from (List.forall_mem_cons.mpr ⟨List.mem_cons_of_mem _ (List.mem_append_left _ (List.mem_of_getElem? (i := 15) rfl)), (fun _ h => absurd h List.not_mem_nil)⟩)) (by decide +kernel)
set_option maxRecDepth 20000 in
theorem gX11_stop_X11_isTown : GoodIn wsX11_stop (va_wsS RX11 174 yX11_isTown wsX11_isTown) := goodIn_app (goodIn_sub (List.forall_mem_cons.mpr ⟨List.mem_cons_of_mem _ (List.mem_append_left _ (List.mem_of_getElem? (i := 13) rfl)), (List.forall_mem_cons.mpr ⟨List.mem_cons_of_mem _ (List.mem_append_left _ (List.mem_of_getElem? (i := 14) rfl)), (List.forall_mem_cons.mpr ⟨List.mem_cons_of_mem _ (List.mem_append_left _ (List.mem_of_getElem? (i := 11) rfl)), (fun _ h => absurd h List.not_mem_nil)⟩)⟩)⟩) (by decide +kernel)) ggX11_stop_X11_isTown
set_option maxRecDepth 20000 in
theorem ggX11_stop_X11_sends : GoodIn wsX11_stop wsX11_sends := goodIn_sub (show ∀ w ∈ wsX11_sends, w ∈ wsX11_stop from (List.forall_mem_cons.mpr ⟨List.mem_cons_of_mem _ (List.mem_append_left _ (List.mem_of_getElem? (i := 19) rfl)), (gw_a (List.forall_mem_cons.mpr ⟨List.mem_cons_of_mem _ (List.mem_append_left _ (List.mem_of_getElem? (i := 6) rfl)), (List.forall_mem_cons.mpr ⟨List.mem_cons_of_mem _ (List.mem_append_left _ (List.mem_of_getElem? (i := 7) rfl)), (List.forall_mem_cons.mpr ⟨List.mem_cons_of_mem _ (List.mem_append_left _ (List.mem_of_getElem? (i := 20) rfl)), (List.forall_mem_cons.mpr ⟨List.mem_cons_of_mem _ (List.mem_append_left _ (List.mem_of_getElem? (i := 21) rfl)), (fun _ h => absurd h List.not_mem_nil)⟩)⟩)⟩)⟩) (fun _ h => List.mem_cons_of_mem _ (List.mem_append_right _ (h))))⟩)) (by decide +kernel)
set_option maxRecDepth 20000 in
theorem gX11_stop_X11_sends : GoodIn wsX11_stop (wsV RX11 190 RX11 yX11_sends wsX11_sends) := goodIn_app (goodIn_sub (List.forall_mem_cons.mpr ⟨List.mem_cons_of_mem _ (List.mem_append_left _ (List.mem_of_getElem? (i := 16) rfl)), (List.forall_mem_cons.mpr ⟨List.mem_cons_of_mem _ (List.mem_append_left _ (List.mem_of_getElem? (i := 17) rfl)), (List.forall_mem_cons.mpr ⟨List.mem_cons_of_mem _ (List.mem_append_left _ (List.mem_of_getElem? (i := 18) rfl)), (List.forall_mem_cons.mpr ⟨List.mem_cons_of_mem _ (List.mem_append_left _ (List.mem_of_getElem? (i := 11) rfl)), (fun _ h => absurd h List.not_mem_nil)⟩)⟩)⟩)⟩) (by decide +kernel)) ggX11_stop_X11_sends
theorem chX11_stop_0_04 : ((cX11_stop.data.toList.drop 0).take 16).map UInt8.toNat = [42, 180, 0, 194, 16, 60, 159, 0, 45, 27, 3, 42, 180, 0, 179, 4] := by decide +kernel
theorem dX11_stop_0 : decode cX11_stop 0 = .ok (.aload_n 0, 1) := dk42 (rd_c chX11_stop_0_04 (j := 0) rfl rfl)
theorem dX11_stop_1 : decode cX11_stop 1 = .ok (.getfield 194, 3) := dk180 (rd_c chX11_stop_0_04 (j := 1) rfl rfl) (rd_c chX11_stop_0_04 (j := 2) rfl rfl) (rd_c chX11_stop_0_04 (j := 3) rfl rfl) rfl
theorem dX11_stop_4 : decode cX11_stop 4 = .ok (.bipush 60, 2) := dk16 (rd_c chX11_stop_0_04 (j := 4) rfl rfl) (rd_c chX11_stop_0_04 (j := 5) rfl rfl) rfl
theorem dX11_stop_6 : decode cX11_stop 6 = .ok (.if_icmp .eq 45, 3) := dk159 (rd_c chX11_stop_0_04 (j := 6) rfl rfl) (rd_c chX11_stop_0_04 (j := 7) rfl rfl) (rd_c chX11_stop_0_04 (j := 8) rfl rfl) rfl
theorem dX11_stop_9 : decode cX11_stop 9 = .ok (.iload_n 1, 1) := dk27 (rd_c chX11_stop_0_04 (j := 9) rfl rfl)
theorem dX11_stop_10 : decode cX11_stop 10 = .ok (.iconst 0, 1) := dk3 (rd_c chX11_stop_0_04 (j := 10) rfl rfl)
theorem dX11_stop_11 : decode cX11_stop 11 = .ok (.aload_n 0, 1) := dk42 (rd_c chX11_stop_0_04 (j := 11) rfl rfl)
theorem dX11_stop_12 : decode cX11_stop 12 = .ok (.getfield 179, 3) := dk180 (rd_c chX11_stop_0_04 (j := 12) rfl rfl) (rd_c chX11_stop_0_04 (j := 13) rfl rfl) (rd_c chX11_stop_0_04 (j := 14) rfl rfl) rfl
theorem dX11_stop_15 : decode cX11_stop 15 = .ok (.iconst 1, 1) := dk4 (rd_c chX11_stop_0_04 (j := 15) rfl rfl)
theorem chX11_stop_1_04 : ((cX11_stop.data.toList.drop 16).take 16).map UInt8.toNat = [100, 184, 0, 170, 153, 0, 31, 29, 184, 0, 174, 153, 0, 24, 28, 2] := by decide +kernel
theorem dX11_stop_16 : decode cX11_stop 16 = .ok (.isub, 1) := dk100 (rd_c chX11_stop_1_04 (j := 0) rfl rfl)
theorem dX11_stop_17 : decode cX11_stop 17 = .ok (.invokestatic 170, 3) := dk184 (rd_c chX11_stop_1_04 (j := 1) rfl rfl) (rd_c chX11_stop_1_04 (j := 2) rfl rfl) (rd_c chX11_stop_1_04 (j := 3) rfl rfl) rfl
theorem dX11_stop_20 : decode cX11_stop 20 = .ok (.ifCond .eq 31, 3) := dk153 (rd_c chX11_stop_1_04 (j := 4) rfl rfl) (rd_c chX11_stop_1_04 (j := 5) rfl rfl) (rd_c chX11_stop_1_04 (j := 6) rfl rfl) rfl
theorem dX11_stop_23 : decode cX11_stop 23 = .ok (.iload_n 3, 1) := dk29 (rd_c chX11_stop_1_04 (j := 7) rfl rfl)
theorem dX11_stop_24 : decode cX11_stop 24 = .ok (.invokestatic 174, 3) := dk184 (rd_c chX11_stop_1_04 (j := 8) rfl rfl) (rd_c chX11_stop_1_04 (j := 9) rfl rfl) (rd_c chX11_stop_1_04 (j := 10) rfl rfl) rfl
theorem dX11_stop_27 : decode cX11_stop 27 = .ok (.ifCond .eq 24, 3) := dk153 (rd_c chX11_stop_1_04 (j := 11) rfl rfl) (rd_c chX11_stop_1_04 (j := 12) rfl rfl) (rd_c chX11_stop_1_04 (j := 13) rfl rfl) rfl
theorem dX11_stop_30 : decode cX11_stop 30 = .ok (.iload_n 2, 1) := dk28 (rd_c chX11_stop_1_04 (j := 14) rfl rfl)
theorem dX11_stop_31 : decode cX11_stop 31 = .ok (.iconst (-1), 1) := dk2 (rd_c chX11_stop_1_04 (j := 15) rfl rfl)
theorem chX11_stop_2_04 : ((cX11_stop.data.toList.drop 32).take 16).map UInt8.toNat = [159, 0, 21, 28, 3, 42, 180, 0, 27, 27, 46, 4, 100, 184, 0, 170] := by decide +kernel
theorem dX11_stop_32 : decode cX11_stop 32 = .ok (.if_icmp .eq 21, 3) := dk159 (rd_c chX11_stop_2_04 (j := 0) rfl rfl) (rd_c chX11_stop_2_04 (j := 1) rfl rfl) (rd_c chX11_stop_2_04 (j := 2) rfl rfl) rfl
theorem dX11_stop_35 : decode cX11_stop 35 = .ok (.iload_n 2, 1) := dk28 (rd_c chX11_stop_2_04 (j := 3) rfl rfl)
theorem dX11_stop_36 : decode cX11_stop 36 = .ok (.iconst 0, 1) := dk3 (rd_c chX11_stop_2_04 (j := 4) rfl rfl)
theorem dX11_stop_37 : decode cX11_stop 37 = .ok (.aload_n 0, 1) := dk42 (rd_c chX11_stop_2_04 (j := 5) rfl rfl)
theorem dX11_stop_38 : decode cX11_stop 38 = .ok (.getfield 27, 3) := dk180 (rd_c chX11_stop_2_04 (j := 6) rfl rfl) (rd_c chX11_stop_2_04 (j := 7) rfl rfl) (rd_c chX11_stop_2_04 (j := 8) rfl rfl) rfl
theorem dX11_stop_41 : decode cX11_stop 41 = .ok (.iload_n 1, 1) := dk27 (rd_c chX11_stop_2_04 (j := 9) rfl rfl)
theorem dX11_stop_42 : decode cX11_stop 42 = .ok (.iaload, 1) := dk46 (rd_c chX11_stop_2_04 (j := 10) rfl rfl)
theorem dX11_stop_43 : decode cX11_stop 43 = .ok (.iconst 1, 1) := dk4 (rd_c chX11_stop_2_04 (j := 11) rfl rfl)
theorem dX11_stop_44 : decode cX11_stop 44 = .ok (.isub, 1) := dk100 (rd_c chX11_stop_2_04 (j := 12) rfl rfl)
theorem dX11_stop_45 : decode cX11_stop 45 = .ok (.invokestatic 170, 3) := dk184 (rd_c chX11_stop_2_04 (j := 13) rfl rfl) (rd_c chX11_stop_2_04 (j := 14) rfl rfl) (rd_c chX11_stop_2_04 (j := 15) rfl rfl) rfl
theorem chX11_stop_3_04 : ((cX11_stop.data.toList.drop 48).take 16).map UInt8.toNat = [154, 0, 5, 2, 172, 42, 29, 4, 182, 0, 190, 42, 180, 0, 61, 42] := by decide +kernel
theorem dX11_stop_48 : decode cX11_stop 48 = .ok (.ifCond .ne 5, 3) := dk154 (rd_c chX11_stop_3_04 (j := 0) rfl rfl) (rd_c chX11_stop_3_04 (j := 1) rfl rfl) (rd_c chX11_stop_3_04 (j := 2) rfl rfl) rfl
theorem dX11_stop_51 : decode cX11_stop 51 = .ok (.iconst (-1), 1) := dk2 (rd_c chX11_stop_3_04 (j := 3) rfl rfl)
theorem dX11_stop_52 : decode cX11_stop 52 = .ok (.ireturn, 1) := dk172 (rd_c chX11_stop_3_04 (j := 4) rfl rfl)
theorem dX11_stop_53 : decode cX11_stop 53 = .ok (.aload_n 0, 1) := dk42 (rd_c chX11_stop_3_04 (j := 5) rfl rfl)
theorem dX11_stop_54 : decode cX11_stop 54 = .ok (.iload_n 3, 1) := dk29 (rd_c chX11_stop_3_04 (j := 6) rfl rfl)
theorem dX11_stop_55 : decode cX11_stop 55 = .ok (.iconst 1, 1) := dk4 (rd_c chX11_stop_3_04 (j := 7) rfl rfl)
theorem dX11_stop_56 : decode cX11_stop 56 = .ok (.invokevirtual 190, 3) := dk182 (rd_c chX11_stop_3_04 (j := 8) rfl rfl) (rd_c chX11_stop_3_04 (j := 9) rfl rfl) (rd_c chX11_stop_3_04 (j := 10) rfl rfl) rfl
theorem dX11_stop_59 : decode cX11_stop 59 = .ok (.aload_n 0, 1) := dk42 (rd_c chX11_stop_3_04 (j := 11) rfl rfl)
theorem dX11_stop_60 : decode cX11_stop 60 = .ok (.getfield 61, 3) := dk180 (rd_c chX11_stop_3_04 (j := 12) rfl rfl) (rd_c chX11_stop_3_04 (j := 13) rfl rfl) (rd_c chX11_stop_3_04 (j := 14) rfl rfl) rfl
theorem dX11_stop_63 : decode cX11_stop 63 = .ok (.aload_n 0, 1) := dk42 (rd_c chX11_stop_3_04 (j := 15) rfl rfl)
theorem chX11_stop_4_04 : ((cX11_stop.data.toList.drop 64).take 16).map UInt8.toNat = [180, 0, 194, 27, 79, 42, 180, 0, 64, 42, 180, 0, 194, 28, 79, 3] := by decide +kernel
theorem dX11_stop_64 : decode cX11_stop 64 = .ok (.getfield 194, 3) := dk180 (rd_c chX11_stop_4_04 (j := 0) rfl rfl) (rd_c chX11_stop_4_04 (j := 1) rfl rfl) (rd_c chX11_stop_4_04 (j := 2) rfl rfl) rfl
theorem dX11_stop_67 : decode cX11_stop 67 = .ok (.iload_n 1, 1) := dk27 (rd_c chX11_stop_4_04 (j := 3) rfl rfl)
theorem dX11_stop_68 : decode cX11_stop 68 = .ok (.iastore, 1) := dk79 (rd_c chX11_stop_4_04 (j := 4) rfl rfl)
theorem dX11_stop_69 : decode cX11_stop 69 = .ok (.aload_n 0, 1) := dk42 (rd_c chX11_stop_4_04 (j := 5) rfl rfl)
theorem dX11_stop_70 : decode cX11_stop 70 = .ok (.getfield 64, 3) := dk180 (rd_c chX11_stop_4_04 (j := 6) rfl rfl) (rd_c chX11_stop_4_04 (j := 7) rfl rfl) (rd_c chX11_stop_4_04 (j := 8) rfl rfl) rfl
theorem dX11_stop_73 : decode cX11_stop 73 = .ok (.aload_n 0, 1) := dk42 (rd_c chX11_stop_4_04 (j := 9) rfl rfl)
theorem dX11_stop_74 : decode cX11_stop 74 = .ok (.getfield 194, 3) := dk180 (rd_c chX11_stop_4_04 (j := 10) rfl rfl) (rd_c chX11_stop_4_04 (j := 11) rfl rfl) (rd_c chX11_stop_4_04 (j := 12) rfl rfl) rfl
theorem dX11_stop_77 : decode cX11_stop 77 = .ok (.iload_n 2, 1) := dk28 (rd_c chX11_stop_4_04 (j := 13) rfl rfl)
theorem dX11_stop_78 : decode cX11_stop 78 = .ok (.iastore, 1) := dk79 (rd_c chX11_stop_4_04 (j := 14) rfl rfl)
theorem dX11_stop_79 : decode cX11_stop 79 = .ok (.iconst 0, 1) := dk3 (rd_c chX11_stop_4_04 (j := 15) rfl rfl)
theorem chX11_stop_5_04 : ((cX11_stop.data.toList.drop 80).take 16).map UInt8.toNat = [54, 4, 21, 4, 16, 12, 162, 0, 50, 42, 180, 0, 67, 42, 180, 0] := by decide +kernel
theorem dX11_stop_80 : decode cX11_stop 80 = .ok (.istore 4, 2) := dk54 (rd_c chX11_stop_5_04 (j := 0) rfl rfl) (rd_c chX11_stop_5_04 (j := 1) rfl rfl)
theorem dX11_stop_82 : decode cX11_stop 82 = .ok (.iload 4, 2) := dk21 (rd_c chX11_stop_5_04 (j := 2) rfl rfl) (rd_c chX11_stop_5_04 (j := 3) rfl rfl)
theorem dX11_stop_84 : decode cX11_stop 84 = .ok (.bipush 12, 2) := dk16 (rd_c chX11_stop_5_04 (j := 4) rfl rfl) (rd_c chX11_stop_5_04 (j := 5) rfl rfl) rfl
theorem dX11_stop_86 : decode cX11_stop 86 = .ok (.if_icmp .ge 50, 3) := dk162 (rd_c chX11_stop_5_04 (j := 6) rfl rfl) (rd_c chX11_stop_5_04 (j := 7) rfl rfl) (rd_c chX11_stop_5_04 (j := 8) rfl rfl) rfl
theorem dX11_stop_89 : decode cX11_stop 89 = .ok (.aload_n 0, 1) := dk42 (rd_c chX11_stop_5_04 (j := 9) rfl rfl)
theorem dX11_stop_90 : decode cX11_stop 90 = .ok (.getfield 67, 3) := dk180 (rd_c chX11_stop_5_04 (j := 10) rfl rfl) (rd_c chX11_stop_5_04 (j := 11) rfl rfl) (rd_c chX11_stop_5_04 (j := 12) rfl rfl) rfl
theorem dX11_stop_93 : decode cX11_stop 93 = .ok (.aload_n 0, 1) := dk42 (rd_c chX11_stop_5_04 (j := 13) rfl rfl)
theorem chX11_stop_6_04 : ((cX11_stop.data.toList.drop 96).take 16).map UInt8.toNat = [194, 50, 21, 4, 42, 180, 0, 24, 21, 4, 46, 18, 159, 160, 0, 8] := by decide +kernel
theorem dX11_stop_94 : decode cX11_stop 94 = .ok (.getfield 194, 3) := dk180 (rd_c chX11_stop_5_04 (j := 14) rfl rfl) (rd_c chX11_stop_5_04 (j := 15) rfl rfl) (rd_c chX11_stop_6_04 (j := 0) rfl rfl) rfl
theorem dX11_stop_97 : decode cX11_stop 97 = .ok (.aaload, 1) := dk50 (rd_c chX11_stop_6_04 (j := 1) rfl rfl)
theorem dX11_stop_98 : decode cX11_stop 98 = .ok (.iload 4, 2) := dk21 (rd_c chX11_stop_6_04 (j := 2) rfl rfl) (rd_c chX11_stop_6_04 (j := 3) rfl rfl)
theorem dX11_stop_100 : decode cX11_stop 100 = .ok (.aload_n 0, 1) := dk42 (rd_c chX11_stop_6_04 (j := 4) rfl rfl)
theorem dX11_stop_101 : decode cX11_stop 101 = .ok (.getfield 24, 3) := dk180 (rd_c chX11_stop_6_04 (j := 5) rfl rfl) (rd_c chX11_stop_6_04 (j := 6) rfl rfl) (rd_c chX11_stop_6_04 (j := 7) rfl rfl) rfl
theorem dX11_stop_104 : decode cX11_stop 104 = .ok (.iload 4, 2) := dk21 (rd_c chX11_stop_6_04 (j := 8) rfl rfl) (rd_c chX11_stop_6_04 (j := 9) rfl rfl)
theorem dX11_stop_106 : decode cX11_stop 106 = .ok (.iaload, 1) := dk46 (rd_c chX11_stop_6_04 (j := 10) rfl rfl)
theorem dX11_stop_107 : decode cX11_stop 107 = .ok (.ldc 159, 2) := dk18 (rd_c chX11_stop_6_04 (j := 11) rfl rfl) (rd_c chX11_stop_6_04 (j := 12) rfl rfl)
theorem dX11_stop_109 : decode cX11_stop 109 = .ok (.if_icmp .ne 8, 3) := dk160 (rd_c chX11_stop_6_04 (j := 13) rfl rfl) (rd_c chX11_stop_6_04 (j := 14) rfl rfl) (rd_c chX11_stop_6_04 (j := 15) rfl rfl) rfl
theorem chX11_stop_7_04 : ((cX11_stop.data.toList.drop 112).take 16).map UInt8.toNat = [18, 159, 167, 0, 15, 42, 180, 0, 167, 42, 180, 0, 24, 21, 4, 46] := by decide +kernel
theorem dX11_stop_112 : decode cX11_stop 112 = .ok (.ldc 159, 2) := dk18 (rd_c chX11_stop_7_04 (j := 0) rfl rfl) (rd_c chX11_stop_7_04 (j := 1) rfl rfl)
theorem dX11_stop_114 : decode cX11_stop 114 = .ok (.goto 15, 3) := dk167 (rd_c chX11_stop_7_04 (j := 2) rfl rfl) (rd_c chX11_stop_7_04 (j := 3) rfl rfl) (rd_c chX11_stop_7_04 (j := 4) rfl rfl) rfl
theorem dX11_stop_117 : decode cX11_stop 117 = .ok (.aload_n 0, 1) := dk42 (rd_c chX11_stop_7_04 (j := 5) rfl rfl)
theorem dX11_stop_118 : decode cX11_stop 118 = .ok (.getfield 167, 3) := dk180 (rd_c chX11_stop_7_04 (j := 6) rfl rfl) (rd_c chX11_stop_7_04 (j := 7) rfl rfl) (rd_c chX11_stop_7_04 (j := 8) rfl rfl) rfl
theorem dX11_stop_121 : decode cX11_stop 121 = .ok (.aload_n 0, 1) := dk42 (rd_c chX11_stop_7_04 (j := 9) rfl rfl)
theorem dX11_stop_122 : decode cX11_stop 122 = .ok (.getfield 24, 3) := dk180 (rd_c chX11_stop_7_04 (j := 10) rfl rfl) (rd_c chX11_stop_7_04 (j := 11) rfl rfl) (rd_c chX11_stop_7_04 (j := 12) rfl rfl) rfl
theorem dX11_stop_125 : decode cX11_stop 125 = .ok (.iload 4, 2) := dk21 (rd_c chX11_stop_7_04 (j := 13) rfl rfl) (rd_c chX11_stop_7_04 (j := 14) rfl rfl)
theorem dX11_stop_127 : decode cX11_stop 127 = .ok (.iaload, 1) := dk46 (rd_c chX11_stop_7_04 (j := 15) rfl rfl)
theorem chX11_stop_8_04 : ((cX11_stop.data.toList.drop 128).take 16).map UInt8.toNat = [96, 79, 132, 4, 1, 167, 255, 205, 42, 89, 180, 0, 194, 4, 96, 181] := by decide +kernel
theorem dX11_stop_128 : decode cX11_stop 128 = .ok (.iadd, 1) := dk96 (rd_c chX11_stop_8_04 (j := 0) rfl rfl)
theorem dX11_stop_129 : decode cX11_stop 129 = .ok (.iastore, 1) := dk79 (rd_c chX11_stop_8_04 (j := 1) rfl rfl)
theorem dX11_stop_130 : decode cX11_stop 130 = .ok (.iinc 4 1, 3) := dk132 (rd_c chX11_stop_8_04 (j := 2) rfl rfl) (rd_c chX11_stop_8_04 (j := 3) rfl rfl) (rd_c chX11_stop_8_04 (j := 4) rfl rfl) rfl
theorem dX11_stop_133 : decode cX11_stop 133 = .ok (.goto (-51), 3) := dk167 (rd_c chX11_stop_8_04 (j := 5) rfl rfl) (rd_c chX11_stop_8_04 (j := 6) rfl rfl) (rd_c chX11_stop_8_04 (j := 7) rfl rfl) rfl
theorem dX11_stop_136 : decode cX11_stop 136 = .ok (.aload_n 0, 1) := dk42 (rd_c chX11_stop_8_04 (j := 8) rfl rfl)
theorem dX11_stop_137 : decode cX11_stop 137 = .ok (.dup, 1) := dk89 (rd_c chX11_stop_8_04 (j := 9) rfl rfl)
theorem dX11_stop_138 : decode cX11_stop 138 = .ok (.getfield 194, 3) := dk180 (rd_c chX11_stop_8_04 (j := 10) rfl rfl) (rd_c chX11_stop_8_04 (j := 11) rfl rfl) (rd_c chX11_stop_8_04 (j := 12) rfl rfl) rfl
theorem dX11_stop_141 : decode cX11_stop 141 = .ok (.iconst 1, 1) := dk4 (rd_c chX11_stop_8_04 (j := 13) rfl rfl)
theorem dX11_stop_142 : decode cX11_stop 142 = .ok (.iadd, 1) := dk96 (rd_c chX11_stop_8_04 (j := 14) rfl rfl)
theorem chX11_stop_9_04 : ((cX11_stop.data.toList.drop 144).take 16).map UInt8.toNat = [0, 194, 42, 180, 0, 194, 4, 100, 172] := by decide +kernel
theorem dX11_stop_143 : decode cX11_stop 143 = .ok (.putfield 194, 3) := dk181 (rd_c chX11_stop_8_04 (j := 15) rfl rfl) (rd_c chX11_stop_9_04 (j := 0) rfl rfl) (rd_c chX11_stop_9_04 (j := 1) rfl rfl) rfl
theorem dX11_stop_146 : decode cX11_stop 146 = .ok (.aload_n 0, 1) := dk42 (rd_c chX11_stop_9_04 (j := 2) rfl rfl)
theorem dX11_stop_147 : decode cX11_stop 147 = .ok (.getfield 194, 3) := dk180 (rd_c chX11_stop_9_04 (j := 3) rfl rfl) (rd_c chX11_stop_9_04 (j := 4) rfl rfl) (rd_c chX11_stop_9_04 (j := 5) rfl rfl) rfl
theorem dX11_stop_150 : decode cX11_stop 150 = .ok (.iconst 1, 1) := dk4 (rd_c chX11_stop_9_04 (j := 6) rfl rfl)
theorem dX11_stop_151 : decode cX11_stop 151 = .ok (.isub, 1) := dk100 (rd_c chX11_stop_9_04 (j := 7) rfl rfl)
theorem dX11_stop_152 : decode cX11_stop 152 = .ok (.ireturn, 1) := dk172 (rd_c chX11_stop_9_04 (j := 8) rfl rfl)
theorem chX11_isAdvised_0_04 : ((cX11_isAdvised.data.toList.drop 0).take 16).map UInt8.toNat = [3, 54, 4, 3, 54, 5, 21, 5, 42, 180, 0, 187, 162, 0, 64, 21] := by decide +kernel
theorem dX11_isAdvised_0 : decode cX11_isAdvised 0 = .ok (.iconst 0, 1) := dk3 (rd_c chX11_isAdvised_0_04 (j := 0) rfl rfl)
theorem dX11_isAdvised_1 : decode cX11_isAdvised 1 = .ok (.istore 4, 2) := dk54 (rd_c chX11_isAdvised_0_04 (j := 1) rfl rfl) (rd_c chX11_isAdvised_0_04 (j := 2) rfl rfl)
theorem dX11_isAdvised_3 : decode cX11_isAdvised 3 = .ok (.iconst 0, 1) := dk3 (rd_c chX11_isAdvised_0_04 (j := 3) rfl rfl)
theorem dX11_isAdvised_4 : decode cX11_isAdvised 4 = .ok (.istore 5, 2) := dk54 (rd_c chX11_isAdvised_0_04 (j := 4) rfl rfl) (rd_c chX11_isAdvised_0_04 (j := 5) rfl rfl)
theorem dX11_isAdvised_6 : decode cX11_isAdvised 6 = .ok (.iload 5, 2) := dk21 (rd_c chX11_isAdvised_0_04 (j := 6) rfl rfl) (rd_c chX11_isAdvised_0_04 (j := 7) rfl rfl)
theorem dX11_isAdvised_8 : decode cX11_isAdvised 8 = .ok (.aload_n 0, 1) := dk42 (rd_c chX11_isAdvised_0_04 (j := 8) rfl rfl)
theorem dX11_isAdvised_9 : decode cX11_isAdvised 9 = .ok (.getfield 187, 3) := dk180 (rd_c chX11_isAdvised_0_04 (j := 9) rfl rfl) (rd_c chX11_isAdvised_0_04 (j := 10) rfl rfl) (rd_c chX11_isAdvised_0_04 (j := 11) rfl rfl) rfl
theorem dX11_isAdvised_12 : decode cX11_isAdvised 12 = .ok (.if_icmp .ge 64, 3) := dk162 (rd_c chX11_isAdvised_0_04 (j := 12) rfl rfl) (rd_c chX11_isAdvised_0_04 (j := 13) rfl rfl) (rd_c chX11_isAdvised_0_04 (j := 14) rfl rfl) rfl
theorem chX11_isAdvised_1_04 : ((cX11_isAdvised.data.toList.drop 16).take 16).map UInt8.toNat = [4, 154, 0, 46, 42, 180, 0, 48, 21, 5, 46, 27, 160, 0, 39, 42] := by decide +kernel
theorem dX11_isAdvised_15 : decode cX11_isAdvised 15 = .ok (.iload 4, 2) := dk21 (rd_c chX11_isAdvised_0_04 (j := 15) rfl rfl) (rd_c chX11_isAdvised_1_04 (j := 0) rfl rfl)
theorem dX11_isAdvised_17 : decode cX11_isAdvised 17 = .ok (.ifCond .ne 46, 3) := dk154 (rd_c chX11_isAdvised_1_04 (j := 1) rfl rfl) (rd_c chX11_isAdvised_1_04 (j := 2) rfl rfl) (rd_c chX11_isAdvised_1_04 (j := 3) rfl rfl) rfl
theorem dX11_isAdvised_20 : decode cX11_isAdvised 20 = .ok (.aload_n 0, 1) := dk42 (rd_c chX11_isAdvised_1_04 (j := 4) rfl rfl)
theorem dX11_isAdvised_21 : decode cX11_isAdvised 21 = .ok (.getfield 48, 3) := dk180 (rd_c chX11_isAdvised_1_04 (j := 5) rfl rfl) (rd_c chX11_isAdvised_1_04 (j := 6) rfl rfl) (rd_c chX11_isAdvised_1_04 (j := 7) rfl rfl) rfl
theorem dX11_isAdvised_24 : decode cX11_isAdvised 24 = .ok (.iload 5, 2) := dk21 (rd_c chX11_isAdvised_1_04 (j := 8) rfl rfl) (rd_c chX11_isAdvised_1_04 (j := 9) rfl rfl)
theorem dX11_isAdvised_26 : decode cX11_isAdvised 26 = .ok (.iaload, 1) := dk46 (rd_c chX11_isAdvised_1_04 (j := 10) rfl rfl)
theorem dX11_isAdvised_27 : decode cX11_isAdvised 27 = .ok (.iload_n 1, 1) := dk27 (rd_c chX11_isAdvised_1_04 (j := 11) rfl rfl)
theorem dX11_isAdvised_28 : decode cX11_isAdvised 28 = .ok (.if_icmp .ne 39, 3) := dk160 (rd_c chX11_isAdvised_1_04 (j := 12) rfl rfl) (rd_c chX11_isAdvised_1_04 (j := 13) rfl rfl) (rd_c chX11_isAdvised_1_04 (j := 14) rfl rfl) rfl
theorem dX11_isAdvised_31 : decode cX11_isAdvised 31 = .ok (.aload_n 0, 1) := dk42 (rd_c chX11_isAdvised_1_04 (j := 15) rfl rfl)
theorem chX11_isAdvised_2_04 : ((cX11_isAdvised.data.toList.drop 32).take 16).map UInt8.toNat = [180, 0, 51, 21, 5, 46, 28, 160, 0, 28, 42, 180, 0, 57, 21, 5] := by decide +kernel
theorem dX11_isAdvised_32 : decode cX11_isAdvised 32 = .ok (.getfield 51, 3) := dk180 (rd_c chX11_isAdvised_2_04 (j := 0) rfl rfl) (rd_c chX11_isAdvised_2_04 (j := 1) rfl rfl) (rd_c chX11_isAdvised_2_04 (j := 2) rfl rfl) rfl
theorem dX11_isAdvised_35 : decode cX11_isAdvised 35 = .ok (.iload 5, 2) := dk21 (rd_c chX11_isAdvised_2_04 (j := 3) rfl rfl) (rd_c chX11_isAdvised_2_04 (j := 4) rfl rfl)
theorem dX11_isAdvised_37 : decode cX11_isAdvised 37 = .ok (.iaload, 1) := dk46 (rd_c chX11_isAdvised_2_04 (j := 5) rfl rfl)
theorem dX11_isAdvised_38 : decode cX11_isAdvised 38 = .ok (.iload_n 2, 1) := dk28 (rd_c chX11_isAdvised_2_04 (j := 6) rfl rfl)
theorem dX11_isAdvised_39 : decode cX11_isAdvised 39 = .ok (.if_icmp .ne 28, 3) := dk160 (rd_c chX11_isAdvised_2_04 (j := 7) rfl rfl) (rd_c chX11_isAdvised_2_04 (j := 8) rfl rfl) (rd_c chX11_isAdvised_2_04 (j := 9) rfl rfl) rfl
theorem dX11_isAdvised_42 : decode cX11_isAdvised 42 = .ok (.aload_n 0, 1) := dk42 (rd_c chX11_isAdvised_2_04 (j := 10) rfl rfl)
theorem dX11_isAdvised_43 : decode cX11_isAdvised 43 = .ok (.getfield 57, 3) := dk180 (rd_c chX11_isAdvised_2_04 (j := 11) rfl rfl) (rd_c chX11_isAdvised_2_04 (j := 12) rfl rfl) (rd_c chX11_isAdvised_2_04 (j := 13) rfl rfl) rfl
theorem dX11_isAdvised_46 : decode cX11_isAdvised 46 = .ok (.iload 5, 2) := dk21 (rd_c chX11_isAdvised_2_04 (j := 14) rfl rfl) (rd_c chX11_isAdvised_2_04 (j := 15) rfl rfl)
theorem chX11_isAdvised_3_04 : ((cX11_isAdvised.data.toList.drop 48).take 16).map UInt8.toNat = [51, 154, 0, 18, 42, 180, 0, 54, 21, 5, 46, 29, 163, 0, 7, 4] := by decide +kernel
theorem dX11_isAdvised_48 : decode cX11_isAdvised 48 = .ok (.baload, 1) := dk51 (rd_c chX11_isAdvised_3_04 (j := 0) rfl rfl)
theorem dX11_isAdvised_49 : decode cX11_isAdvised 49 = .ok (.ifCond .ne 18, 3) := dk154 (rd_c chX11_isAdvised_3_04 (j := 1) rfl rfl) (rd_c chX11_isAdvised_3_04 (j := 2) rfl rfl) (rd_c chX11_isAdvised_3_04 (j := 3) rfl rfl) rfl
theorem dX11_isAdvised_52 : decode cX11_isAdvised 52 = .ok (.aload_n 0, 1) := dk42 (rd_c chX11_isAdvised_3_04 (j := 4) rfl rfl)
theorem dX11_isAdvised_53 : decode cX11_isAdvised 53 = .ok (.getfield 54, 3) := dk180 (rd_c chX11_isAdvised_3_04 (j := 5) rfl rfl) (rd_c chX11_isAdvised_3_04 (j := 6) rfl rfl) (rd_c chX11_isAdvised_3_04 (j := 7) rfl rfl) rfl
theorem dX11_isAdvised_56 : decode cX11_isAdvised 56 = .ok (.iload 5, 2) := dk21 (rd_c chX11_isAdvised_3_04 (j := 8) rfl rfl) (rd_c chX11_isAdvised_3_04 (j := 9) rfl rfl)
theorem dX11_isAdvised_58 : decode cX11_isAdvised 58 = .ok (.iaload, 1) := dk46 (rd_c chX11_isAdvised_3_04 (j := 10) rfl rfl)
theorem dX11_isAdvised_59 : decode cX11_isAdvised 59 = .ok (.iload_n 3, 1) := dk29 (rd_c chX11_isAdvised_3_04 (j := 11) rfl rfl)
theorem dX11_isAdvised_60 : decode cX11_isAdvised 60 = .ok (.if_icmp .gt 7, 3) := dk163 (rd_c chX11_isAdvised_3_04 (j := 12) rfl rfl) (rd_c chX11_isAdvised_3_04 (j := 13) rfl rfl) (rd_c chX11_isAdvised_3_04 (j := 14) rfl rfl) rfl
theorem dX11_isAdvised_63 : decode cX11_isAdvised 63 = .ok (.iconst 1, 1) := dk4 (rd_c chX11_isAdvised_3_04 (j := 15) rfl rfl)
theorem chX11_isAdvised_4_04 : ((cX11_isAdvised.data.toList.drop 64).take 16).map UInt8.toNat = [167, 0, 4, 3, 54, 4, 132, 5, 1, 167, 255, 189, 21, 4, 172] := by decide +kernel
theorem dX11_isAdvised_64 : decode cX11_isAdvised 64 = .ok (.goto 4, 3) := dk167 (rd_c chX11_isAdvised_4_04 (j := 0) rfl rfl) (rd_c chX11_isAdvised_4_04 (j := 1) rfl rfl) (rd_c chX11_isAdvised_4_04 (j := 2) rfl rfl) rfl
theorem dX11_isAdvised_67 : decode cX11_isAdvised 67 = .ok (.iconst 0, 1) := dk3 (rd_c chX11_isAdvised_4_04 (j := 3) rfl rfl)
theorem dX11_isAdvised_68 : decode cX11_isAdvised 68 = .ok (.istore 4, 2) := dk54 (rd_c chX11_isAdvised_4_04 (j := 4) rfl rfl) (rd_c chX11_isAdvised_4_04 (j := 5) rfl rfl)
theorem dX11_isAdvised_70 : decode cX11_isAdvised 70 = .ok (.iinc 5 1, 3) := dk132 (rd_c chX11_isAdvised_4_04 (j := 6) rfl rfl) (rd_c chX11_isAdvised_4_04 (j := 7) rfl rfl) (rd_c chX11_isAdvised_4_04 (j := 8) rfl rfl) rfl
theorem dX11_isAdvised_73 : decode cX11_isAdvised 73 = .ok (.goto (-67), 3) := dk167 (rd_c chX11_isAdvised_4_04 (j := 9) rfl rfl) (rd_c chX11_isAdvised_4_04 (j := 10) rfl rfl) (rd_c chX11_isAdvised_4_04 (j := 11) rfl rfl) rfl
theorem dX11_isAdvised_76 : decode cX11_isAdvised 76 = .ok (.iload 4, 2) := dk21 (rd_c chX11_isAdvised_4_04 (j := 12) rfl rfl) (rd_c chX11_isAdvised_4_04 (j := 13) rfl rfl)
theorem dX11_isAdvised_78 : decode cX11_isAdvised 78 = .ok (.ireturn, 1) := dk172 (rd_c chX11_isAdvised_4_04 (j := 14) rfl rfl)
theorem chX11_isStopped_0_04 : ((cX11_isStopped.data.toList.drop 0).take 16).map UInt8.toNat = [3, 54, 5, 3, 54, 6, 21, 6, 42, 180, 0, 194, 162, 0, 68, 21] := by decide +kernel
theorem dX11_isStopped_0 : decode cX11_isStopped 0 = .ok (.iconst 0, 1) := dk3 (rd_c chX11_isStopped_0_04 (j := 0) rfl rfl)
theorem dX11_isStopped_1 : decode cX11_isStopped 1 = .ok (.istore 5, 2) := dk54 (rd_c chX11_isStopped_0_04 (j := 1) rfl rfl) (rd_c chX11_isStopped_0_04 (j := 2) rfl rfl)
theorem dX11_isStopped_3 : decode cX11_isStopped 3 = .ok (.iconst 0, 1) := dk3 (rd_c chX11_isStopped_0_04 (j := 3) rfl rfl)
theorem dX11_isStopped_4 : decode cX11_isStopped 4 = .ok (.istore 6, 2) := dk54 (rd_c chX11_isStopped_0_04 (j := 4) rfl rfl) (rd_c chX11_isStopped_0_04 (j := 5) rfl rfl)
theorem dX11_isStopped_6 : decode cX11_isStopped 6 = .ok (.iload 6, 2) := dk21 (rd_c chX11_isStopped_0_04 (j := 6) rfl rfl) (rd_c chX11_isStopped_0_04 (j := 7) rfl rfl)
theorem dX11_isStopped_8 : decode cX11_isStopped 8 = .ok (.aload_n 0, 1) := dk42 (rd_c chX11_isStopped_0_04 (j := 8) rfl rfl)
theorem dX11_isStopped_9 : decode cX11_isStopped 9 = .ok (.getfield 194, 3) := dk180 (rd_c chX11_isStopped_0_04 (j := 9) rfl rfl) (rd_c chX11_isStopped_0_04 (j := 10) rfl rfl) (rd_c chX11_isStopped_0_04 (j := 11) rfl rfl) rfl
theorem dX11_isStopped_12 : decode cX11_isStopped 12 = .ok (.if_icmp .ge 68, 3) := dk162 (rd_c chX11_isStopped_0_04 (j := 12) rfl rfl) (rd_c chX11_isStopped_0_04 (j := 13) rfl rfl) (rd_c chX11_isStopped_0_04 (j := 14) rfl rfl) rfl
theorem chX11_isStopped_1_04 : ((cX11_isStopped.data.toList.drop 16).take 16).map UInt8.toNat = [5, 154, 0, 50, 42, 180, 0, 61, 21, 6, 46, 27, 160, 0, 43, 42] := by decide +kernel
theorem dX11_isStopped_15 : decode cX11_isStopped 15 = .ok (.iload 5, 2) := dk21 (rd_c chX11_isStopped_0_04 (j := 15) rfl rfl) (rd_c chX11_isStopped_1_04 (j := 0) rfl rfl)
theorem dX11_isStopped_17 : decode cX11_isStopped 17 = .ok (.ifCond .ne 50, 3) := dk154 (rd_c chX11_isStopped_1_04 (j := 1) rfl rfl) (rd_c chX11_isStopped_1_04 (j := 2) rfl rfl) (rd_c chX11_isStopped_1_04 (j := 3) rfl rfl) rfl
theorem dX11_isStopped_20 : decode cX11_isStopped 20 = .ok (.aload_n 0, 1) := dk42 (rd_c chX11_isStopped_1_04 (j := 4) rfl rfl)
theorem dX11_isStopped_21 : decode cX11_isStopped 21 = .ok (.getfield 61, 3) := dk180 (rd_c chX11_isStopped_1_04 (j := 5) rfl rfl) (rd_c chX11_isStopped_1_04 (j := 6) rfl rfl) (rd_c chX11_isStopped_1_04 (j := 7) rfl rfl) rfl
theorem dX11_isStopped_24 : decode cX11_isStopped 24 = .ok (.iload 6, 2) := dk21 (rd_c chX11_isStopped_1_04 (j := 8) rfl rfl) (rd_c chX11_isStopped_1_04 (j := 9) rfl rfl)
theorem dX11_isStopped_26 : decode cX11_isStopped 26 = .ok (.iaload, 1) := dk46 (rd_c chX11_isStopped_1_04 (j := 10) rfl rfl)
theorem dX11_isStopped_27 : decode cX11_isStopped 27 = .ok (.iload_n 1, 1) := dk27 (rd_c chX11_isStopped_1_04 (j := 11) rfl rfl)
theorem dX11_isStopped_28 : decode cX11_isStopped 28 = .ok (.if_icmp .ne 43, 3) := dk160 (rd_c chX11_isStopped_1_04 (j := 12) rfl rfl) (rd_c chX11_isStopped_1_04 (j := 13) rfl rfl) (rd_c chX11_isStopped_1_04 (j := 14) rfl rfl) rfl
theorem dX11_isStopped_31 : decode cX11_isStopped 31 = .ok (.aload_n 0, 1) := dk42 (rd_c chX11_isStopped_1_04 (j := 15) rfl rfl)
theorem chX11_isStopped_2_04 : ((cX11_isStopped.data.toList.drop 32).take 16).map UInt8.toNat = [180, 0, 64, 21, 6, 46, 2, 159, 0, 14, 42, 180, 0, 64, 21, 6] := by decide +kernel
theorem dX11_isStopped_32 : decode cX11_isStopped 32 = .ok (.getfield 64, 3) := dk180 (rd_c chX11_isStopped_2_04 (j := 0) rfl rfl) (rd_c chX11_isStopped_2_04 (j := 1) rfl rfl) (rd_c chX11_isStopped_2_04 (j := 2) rfl rfl) rfl
theorem dX11_isStopped_35 : decode cX11_isStopped 35 = .ok (.iload 6, 2) := dk21 (rd_c chX11_isStopped_2_04 (j := 3) rfl rfl) (rd_c chX11_isStopped_2_04 (j := 4) rfl rfl)
theorem dX11_isStopped_37 : decode cX11_isStopped 37 = .ok (.iaload, 1) := dk46 (rd_c chX11_isStopped_2_04 (j := 5) rfl rfl)
theorem dX11_isStopped_38 : decode cX11_isStopped 38 = .ok (.iconst (-1), 1) := dk2 (rd_c chX11_isStopped_2_04 (j := 6) rfl rfl)
theorem dX11_isStopped_39 : decode cX11_isStopped 39 = .ok (.if_icmp .eq 14, 3) := dk159 (rd_c chX11_isStopped_2_04 (j := 7) rfl rfl) (rd_c chX11_isStopped_2_04 (j := 8) rfl rfl) (rd_c chX11_isStopped_2_04 (j := 9) rfl rfl) rfl
theorem dX11_isStopped_42 : decode cX11_isStopped 42 = .ok (.aload_n 0, 1) := dk42 (rd_c chX11_isStopped_2_04 (j := 10) rfl rfl)
theorem dX11_isStopped_43 : decode cX11_isStopped 43 = .ok (.getfield 64, 3) := dk180 (rd_c chX11_isStopped_2_04 (j := 11) rfl rfl) (rd_c chX11_isStopped_2_04 (j := 12) rfl rfl) (rd_c chX11_isStopped_2_04 (j := 13) rfl rfl) rfl
theorem dX11_isStopped_46 : decode cX11_isStopped 46 = .ok (.iload 6, 2) := dk21 (rd_c chX11_isStopped_2_04 (j := 14) rfl rfl) (rd_c chX11_isStopped_2_04 (j := 15) rfl rfl)
theorem chX11_isStopped_3_04 : ((cX11_isStopped.data.toList.drop 48).take 16).map UInt8.toNat = [46, 28, 160, 0, 21, 42, 180, 0, 67, 21, 6, 50, 29, 46, 21, 4] := by decide +kernel
theorem dX11_isStopped_48 : decode cX11_isStopped 48 = .ok (.iaload, 1) := dk46 (rd_c chX11_isStopped_3_04 (j := 0) rfl rfl)
theorem dX11_isStopped_49 : decode cX11_isStopped 49 = .ok (.iload_n 2, 1) := dk28 (rd_c chX11_isStopped_3_04 (j := 1) rfl rfl)
theorem dX11_isStopped_50 : decode cX11_isStopped 50 = .ok (.if_icmp .ne 21, 3) := dk160 (rd_c chX11_isStopped_3_04 (j := 2) rfl rfl) (rd_c chX11_isStopped_3_04 (j := 3) rfl rfl) (rd_c chX11_isStopped_3_04 (j := 4) rfl rfl) rfl
theorem dX11_isStopped_53 : decode cX11_isStopped 53 = .ok (.aload_n 0, 1) := dk42 (rd_c chX11_isStopped_3_04 (j := 5) rfl rfl)
theorem dX11_isStopped_54 : decode cX11_isStopped 54 = .ok (.getfield 67, 3) := dk180 (rd_c chX11_isStopped_3_04 (j := 6) rfl rfl) (rd_c chX11_isStopped_3_04 (j := 7) rfl rfl) (rd_c chX11_isStopped_3_04 (j := 8) rfl rfl) rfl
theorem dX11_isStopped_57 : decode cX11_isStopped 57 = .ok (.iload 6, 2) := dk21 (rd_c chX11_isStopped_3_04 (j := 9) rfl rfl) (rd_c chX11_isStopped_3_04 (j := 10) rfl rfl)
theorem dX11_isStopped_59 : decode cX11_isStopped 59 = .ok (.aaload, 1) := dk50 (rd_c chX11_isStopped_3_04 (j := 11) rfl rfl)
theorem dX11_isStopped_60 : decode cX11_isStopped 60 = .ok (.iload_n 3, 1) := dk29 (rd_c chX11_isStopped_3_04 (j := 12) rfl rfl)
theorem dX11_isStopped_61 : decode cX11_isStopped 61 = .ok (.iaload, 1) := dk46 (rd_c chX11_isStopped_3_04 (j := 13) rfl rfl)
theorem dX11_isStopped_62 : decode cX11_isStopped 62 = .ok (.iload 4, 2) := dk21 (rd_c chX11_isStopped_3_04 (j := 14) rfl rfl) (rd_c chX11_isStopped_3_04 (j := 15) rfl rfl)
theorem chX11_isStopped_4_04 : ((cX11_isStopped.data.toList.drop 64).take 16).map UInt8.toNat = [163, 0, 7, 4, 167, 0, 4, 3, 54, 5, 132, 6, 1, 167, 255, 185] := by decide +kernel
theorem dX11_isStopped_64 : decode cX11_isStopped 64 = .ok (.if_icmp .gt 7, 3) := dk163 (rd_c chX11_isStopped_4_04 (j := 0) rfl rfl) (rd_c chX11_isStopped_4_04 (j := 1) rfl rfl) (rd_c chX11_isStopped_4_04 (j := 2) rfl rfl) rfl
theorem dX11_isStopped_67 : decode cX11_isStopped 67 = .ok (.iconst 1, 1) := dk4 (rd_c chX11_isStopped_4_04 (j := 3) rfl rfl)
theorem dX11_isStopped_68 : decode cX11_isStopped 68 = .ok (.goto 4, 3) := dk167 (rd_c chX11_isStopped_4_04 (j := 4) rfl rfl) (rd_c chX11_isStopped_4_04 (j := 5) rfl rfl) (rd_c chX11_isStopped_4_04 (j := 6) rfl rfl) rfl
theorem dX11_isStopped_71 : decode cX11_isStopped 71 = .ok (.iconst 0, 1) := dk3 (rd_c chX11_isStopped_4_04 (j := 7) rfl rfl)
theorem dX11_isStopped_72 : decode cX11_isStopped 72 = .ok (.istore 5, 2) := dk54 (rd_c chX11_isStopped_4_04 (j := 8) rfl rfl) (rd_c chX11_isStopped_4_04 (j := 9) rfl rfl)
theorem dX11_isStopped_74 : decode cX11_isStopped 74 = .ok (.iinc 6 1, 3) := dk132 (rd_c chX11_isStopped_4_04 (j := 10) rfl rfl) (rd_c chX11_isStopped_4_04 (j := 11) rfl rfl) (rd_c chX11_isStopped_4_04 (j := 12) rfl rfl) rfl
theorem dX11_isStopped_77 : decode cX11_isStopped 77 = .ok (.goto (-71), 3) := dk167 (rd_c chX11_isStopped_4_04 (j := 13) rfl rfl) (rd_c chX11_isStopped_4_04 (j := 14) rfl rfl) (rd_c chX11_isStopped_4_04 (j := 15) rfl rfl) rfl
theorem chX11_isStopped_5_04 : ((cX11_isStopped.data.toList.drop 80).take 16).map UInt8.toNat = [21, 5, 172] := by decide +kernel
theorem dX11_isStopped_80 : decode cX11_isStopped 80 = .ok (.iload 5, 2) := dk21 (rd_c chX11_isStopped_5_04 (j := 0) rfl rfl) (rd_c chX11_isStopped_5_04 (j := 1) rfl rfl)
theorem dX11_isStopped_82 : decode cX11_isStopped 82 = .ok (.ireturn, 1) := dk172 (rd_c chX11_isStopped_5_04 (j := 2) rfl rfl)
set_option maxRecDepth 20000 in
theorem ggX11_comes_X11_isTown : GoodIn wsX11_comes wsX11_isTown := goodIn_sub (show ∀ w ∈ wsX11_isTown, w ∈ wsX11_comes from (List.forall_mem_cons.mpr ⟨List.mem_cons_of_mem _ (List.mem_append_left _ (List.mem_of_getElem? (i := 10) rfl)), (fun _ h => absurd h List.not_mem_nil)⟩)) (by decide +kernel)
set_option maxRecDepth 20000 in
theorem gX11_comes_X11_isTown : GoodIn wsX11_comes (va_wsS RX11 174 yX11_isTown wsX11_isTown) := goodIn_app (goodIn_sub (List.forall_mem_cons.mpr ⟨List.mem_cons_of_mem _ (List.mem_append_left _ (List.mem_of_getElem? (i := 7) rfl)), (List.forall_mem_cons.mpr ⟨List.mem_cons_of_mem _ (List.mem_append_left _ (List.mem_of_getElem? (i := 8) rfl)), (List.forall_mem_cons.mpr ⟨List.mem_cons_of_mem _ (List.mem_append_left _ (List.mem_of_getElem? (i := 9) rfl)), (fun _ h => absurd h List.not_mem_nil)⟩)⟩)⟩) (by decide +kernel)) ggX11_comes_X11_isTown
set_option maxRecDepth 20000 in
theorem ggX11_comes_X11_in : GoodIn wsX11_comes wsX11_in := goodIn_sub (show ∀ w ∈ wsX11_in, w ∈ wsX11_comes from (List.forall_mem_cons.mpr ⟨List.mem_cons_of_mem _ (List.mem_append_left _ (List.mem_of_getElem? (i := 13) rfl)), (fun _ h => absurd h List.not_mem_nil)⟩)) (by decide +kernel)
set_option maxRecDepth 20000 in
theorem gX11_comes_X11_in : GoodIn wsX11_comes (va_wsS RX11 170 yX11_in wsX11_in) := goodIn_app (goodIn_sub (List.forall_mem_cons.mpr ⟨List.mem_cons_of_mem _ (List.mem_append_left _ (List.mem_of_getElem? (i := 11) rfl)), (List.forall_mem_cons.mpr ⟨List.mem_cons_of_mem _ (List.mem_append_left _ (List.mem_of_getElem? (i := 12) rfl)), (List.forall_mem_cons.mpr ⟨List.mem_cons_of_mem _ (List.mem_append_left _ (List.mem_of_getElem? (i := 9) rfl)), (fun _ h => absurd h List.not_mem_nil)⟩)⟩)⟩) (by decide +kernel)) ggX11_comes_X11_in
theorem chX11_comes_0_04 : ((cX11_comes.data.toList.drop 0).take 16).map UInt8.toNat = [29, 184, 0, 174, 154, 0, 5, 2, 172, 27, 154, 0, 58, 28, 3, 42] := by decide +kernel
theorem dX11_comes_0 : decode cX11_comes 0 = .ok (.iload_n 3, 1) := dk29 (rd_c chX11_comes_0_04 (j := 0) rfl rfl)
theorem dX11_comes_1 : decode cX11_comes 1 = .ok (.invokestatic 174, 3) := dk184 (rd_c chX11_comes_0_04 (j := 1) rfl rfl) (rd_c chX11_comes_0_04 (j := 2) rfl rfl) (rd_c chX11_comes_0_04 (j := 3) rfl rfl) rfl
theorem dX11_comes_4 : decode cX11_comes 4 = .ok (.ifCond .ne 5, 3) := dk154 (rd_c chX11_comes_0_04 (j := 4) rfl rfl) (rd_c chX11_comes_0_04 (j := 5) rfl rfl) (rd_c chX11_comes_0_04 (j := 6) rfl rfl) rfl
theorem dX11_comes_7 : decode cX11_comes 7 = .ok (.iconst (-1), 1) := dk2 (rd_c chX11_comes_0_04 (j := 7) rfl rfl)
theorem dX11_comes_8 : decode cX11_comes 8 = .ok (.ireturn, 1) := dk172 (rd_c chX11_comes_0_04 (j := 8) rfl rfl)
theorem dX11_comes_9 : decode cX11_comes 9 = .ok (.iload_n 1, 1) := dk27 (rd_c chX11_comes_0_04 (j := 9) rfl rfl)
theorem dX11_comes_10 : decode cX11_comes 10 = .ok (.ifCond .ne 58, 3) := dk154 (rd_c chX11_comes_0_04 (j := 10) rfl rfl) (rd_c chX11_comes_0_04 (j := 11) rfl rfl) (rd_c chX11_comes_0_04 (j := 12) rfl rfl) rfl
theorem dX11_comes_13 : decode cX11_comes 13 = .ok (.iload_n 2, 1) := dk28 (rd_c chX11_comes_0_04 (j := 13) rfl rfl)
theorem dX11_comes_14 : decode cX11_comes 14 = .ok (.iconst 0, 1) := dk3 (rd_c chX11_comes_0_04 (j := 14) rfl rfl)
theorem dX11_comes_15 : decode cX11_comes 15 = .ok (.aload_n 0, 1) := dk42 (rd_c chX11_comes_0_04 (j := 15) rfl rfl)
theorem chX11_comes_1_04 : ((cX11_comes.data.toList.drop 16).take 16).map UInt8.toNat = [180, 0, 187, 4, 100, 184, 0, 170, 153, 0, 44, 42, 180, 0, 51, 28] := by decide +kernel
theorem dX11_comes_16 : decode cX11_comes 16 = .ok (.getfield 187, 3) := dk180 (rd_c chX11_comes_1_04 (j := 0) rfl rfl) (rd_c chX11_comes_1_04 (j := 1) rfl rfl) (rd_c chX11_comes_1_04 (j := 2) rfl rfl) rfl
theorem dX11_comes_19 : decode cX11_comes 19 = .ok (.iconst 1, 1) := dk4 (rd_c chX11_comes_1_04 (j := 3) rfl rfl)
theorem dX11_comes_20 : decode cX11_comes 20 = .ok (.isub, 1) := dk100 (rd_c chX11_comes_1_04 (j := 4) rfl rfl)
theorem dX11_comes_21 : decode cX11_comes 21 = .ok (.invokestatic 170, 3) := dk184 (rd_c chX11_comes_1_04 (j := 5) rfl rfl) (rd_c chX11_comes_1_04 (j := 6) rfl rfl) (rd_c chX11_comes_1_04 (j := 7) rfl rfl) rfl
theorem dX11_comes_24 : decode cX11_comes 24 = .ok (.ifCond .eq 44, 3) := dk153 (rd_c chX11_comes_1_04 (j := 8) rfl rfl) (rd_c chX11_comes_1_04 (j := 9) rfl rfl) (rd_c chX11_comes_1_04 (j := 10) rfl rfl) rfl
theorem dX11_comes_27 : decode cX11_comes 27 = .ok (.aload_n 0, 1) := dk42 (rd_c chX11_comes_1_04 (j := 11) rfl rfl)
theorem dX11_comes_28 : decode cX11_comes 28 = .ok (.getfield 51, 3) := dk180 (rd_c chX11_comes_1_04 (j := 12) rfl rfl) (rd_c chX11_comes_1_04 (j := 13) rfl rfl) (rd_c chX11_comes_1_04 (j := 14) rfl rfl) rfl
theorem dX11_comes_31 : decode cX11_comes 31 = .ok (.iload_n 2, 1) := dk28 (rd_c chX11_comes_1_04 (j := 15) rfl rfl)
theorem chX11_comes_2_04 : ((cX11_comes.data.toList.drop 32).take 16).map UInt8.toNat = [46, 29, 160, 0, 34, 42, 180, 0, 57, 28, 51, 154, 0, 25, 42, 180] := by decide +kernel
theorem dX11_comes_32 : decode cX11_comes 32 = .ok (.iaload, 1) := dk46 (rd_c chX11_comes_2_04 (j := 0) rfl rfl)
theorem dX11_comes_33 : decode cX11_comes 33 = .ok (.iload_n 3, 1) := dk29 (rd_c chX11_comes_2_04 (j := 1) rfl rfl)
theorem dX11_comes_34 : decode cX11_comes 34 = .ok (.if_icmp .ne 34, 3) := dk160 (rd_c chX11_comes_2_04 (j := 2) rfl rfl) (rd_c chX11_comes_2_04 (j := 3) rfl rfl) (rd_c chX11_comes_2_04 (j := 4) rfl rfl) rfl
theorem dX11_comes_37 : decode cX11_comes 37 = .ok (.aload_n 0, 1) := dk42 (rd_c chX11_comes_2_04 (j := 5) rfl rfl)
theorem dX11_comes_38 : decode cX11_comes 38 = .ok (.getfield 57, 3) := dk180 (rd_c chX11_comes_2_04 (j := 6) rfl rfl) (rd_c chX11_comes_2_04 (j := 7) rfl rfl) (rd_c chX11_comes_2_04 (j := 8) rfl rfl) rfl
theorem dX11_comes_41 : decode cX11_comes 41 = .ok (.iload_n 2, 1) := dk28 (rd_c chX11_comes_2_04 (j := 9) rfl rfl)
theorem dX11_comes_42 : decode cX11_comes 42 = .ok (.baload, 1) := dk51 (rd_c chX11_comes_2_04 (j := 10) rfl rfl)
theorem dX11_comes_43 : decode cX11_comes 43 = .ok (.ifCond .ne 25, 3) := dk154 (rd_c chX11_comes_2_04 (j := 11) rfl rfl) (rd_c chX11_comes_2_04 (j := 12) rfl rfl) (rd_c chX11_comes_2_04 (j := 13) rfl rfl) rfl
theorem dX11_comes_46 : decode cX11_comes 46 = .ok (.aload_n 0, 1) := dk42 (rd_c chX11_comes_2_04 (j := 14) rfl rfl)
theorem chX11_comes_3_04 : ((cX11_comes.data.toList.drop 48).take 16).map UInt8.toNat = [0, 54, 28, 46, 18, 159, 160, 0, 7, 2, 167, 0, 9, 42, 180, 0] := by decide +kernel
theorem dX11_comes_47 : decode cX11_comes 47 = .ok (.getfield 54, 3) := dk180 (rd_c chX11_comes_2_04 (j := 15) rfl rfl) (rd_c chX11_comes_3_04 (j := 0) rfl rfl) (rd_c chX11_comes_3_04 (j := 1) rfl rfl) rfl
theorem dX11_comes_50 : decode cX11_comes 50 = .ok (.iload_n 2, 1) := dk28 (rd_c chX11_comes_3_04 (j := 2) rfl rfl)
theorem dX11_comes_51 : decode cX11_comes 51 = .ok (.iaload, 1) := dk46 (rd_c chX11_comes_3_04 (j := 3) rfl rfl)
theorem dX11_comes_52 : decode cX11_comes 52 = .ok (.ldc 159, 2) := dk18 (rd_c chX11_comes_3_04 (j := 4) rfl rfl) (rd_c chX11_comes_3_04 (j := 5) rfl rfl)
theorem dX11_comes_54 : decode cX11_comes 54 = .ok (.if_icmp .ne 7, 3) := dk160 (rd_c chX11_comes_3_04 (j := 6) rfl rfl) (rd_c chX11_comes_3_04 (j := 7) rfl rfl) (rd_c chX11_comes_3_04 (j := 8) rfl rfl) rfl
theorem dX11_comes_57 : decode cX11_comes 57 = .ok (.iconst (-1), 1) := dk2 (rd_c chX11_comes_3_04 (j := 9) rfl rfl)
theorem dX11_comes_58 : decode cX11_comes 58 = .ok (.goto 9, 3) := dk167 (rd_c chX11_comes_3_04 (j := 10) rfl rfl) (rd_c chX11_comes_3_04 (j := 11) rfl rfl) (rd_c chX11_comes_3_04 (j := 12) rfl rfl) rfl
theorem dX11_comes_61 : decode cX11_comes 61 = .ok (.aload_n 0, 1) := dk42 (rd_c chX11_comes_3_04 (j := 13) rfl rfl)
theorem chX11_comes_4_04 : ((cX11_comes.data.toList.drop 64).take 16).map UInt8.toNat = [54, 28, 46, 172, 27, 4, 160, 0, 43, 28, 3, 42, 180, 0, 194, 4] := by decide +kernel
theorem dX11_comes_62 : decode cX11_comes 62 = .ok (.getfield 54, 3) := dk180 (rd_c chX11_comes_3_04 (j := 14) rfl rfl) (rd_c chX11_comes_3_04 (j := 15) rfl rfl) (rd_c chX11_comes_4_04 (j := 0) rfl rfl) rfl
theorem dX11_comes_65 : decode cX11_comes 65 = .ok (.iload_n 2, 1) := dk28 (rd_c chX11_comes_4_04 (j := 1) rfl rfl)
theorem dX11_comes_66 : decode cX11_comes 66 = .ok (.iaload, 1) := dk46 (rd_c chX11_comes_4_04 (j := 2) rfl rfl)
theorem dX11_comes_67 : decode cX11_comes 67 = .ok (.ireturn, 1) := dk172 (rd_c chX11_comes_4_04 (j := 3) rfl rfl)
theorem dX11_comes_68 : decode cX11_comes 68 = .ok (.iload_n 1, 1) := dk27 (rd_c chX11_comes_4_04 (j := 4) rfl rfl)
theorem dX11_comes_69 : decode cX11_comes 69 = .ok (.iconst 1, 1) := dk4 (rd_c chX11_comes_4_04 (j := 5) rfl rfl)
theorem dX11_comes_70 : decode cX11_comes 70 = .ok (.if_icmp .ne 43, 3) := dk160 (rd_c chX11_comes_4_04 (j := 6) rfl rfl) (rd_c chX11_comes_4_04 (j := 7) rfl rfl) (rd_c chX11_comes_4_04 (j := 8) rfl rfl) rfl
theorem dX11_comes_73 : decode cX11_comes 73 = .ok (.iload_n 2, 1) := dk28 (rd_c chX11_comes_4_04 (j := 9) rfl rfl)
theorem dX11_comes_74 : decode cX11_comes 74 = .ok (.iconst 0, 1) := dk3 (rd_c chX11_comes_4_04 (j := 10) rfl rfl)
theorem dX11_comes_75 : decode cX11_comes 75 = .ok (.aload_n 0, 1) := dk42 (rd_c chX11_comes_4_04 (j := 11) rfl rfl)
theorem dX11_comes_76 : decode cX11_comes 76 = .ok (.getfield 194, 3) := dk180 (rd_c chX11_comes_4_04 (j := 12) rfl rfl) (rd_c chX11_comes_4_04 (j := 13) rfl rfl) (rd_c chX11_comes_4_04 (j := 14) rfl rfl) rfl
theorem dX11_comes_79 : decode cX11_comes 79 = .ok (.iconst 1, 1) := dk4 (rd_c chX11_comes_4_04 (j := 15) rfl rfl)
theorem chX11_comes_5_04 : ((cX11_comes.data.toList.drop 80).take 16).map UInt8.toNat = [100, 184, 0, 170, 153, 0, 29, 42, 180, 0, 67, 28, 50, 29, 46, 18] := by decide +kernel
theorem dX11_comes_80 : decode cX11_comes 80 = .ok (.isub, 1) := dk100 (rd_c chX11_comes_5_04 (j := 0) rfl rfl)
theorem dX11_comes_81 : decode cX11_comes 81 = .ok (.invokestatic 170, 3) := dk184 (rd_c chX11_comes_5_04 (j := 1) rfl rfl) (rd_c chX11_comes_5_04 (j := 2) rfl rfl) (rd_c chX11_comes_5_04 (j := 3) rfl rfl) rfl
theorem dX11_comes_84 : decode cX11_comes 84 = .ok (.ifCond .eq 29, 3) := dk153 (rd_c chX11_comes_5_04 (j := 4) rfl rfl) (rd_c chX11_comes_5_04 (j := 5) rfl rfl) (rd_c chX11_comes_5_04 (j := 6) rfl rfl) rfl
theorem dX11_comes_87 : decode cX11_comes 87 = .ok (.aload_n 0, 1) := dk42 (rd_c chX11_comes_5_04 (j := 7) rfl rfl)
theorem dX11_comes_88 : decode cX11_comes 88 = .ok (.getfield 67, 3) := dk180 (rd_c chX11_comes_5_04 (j := 8) rfl rfl) (rd_c chX11_comes_5_04 (j := 9) rfl rfl) (rd_c chX11_comes_5_04 (j := 10) rfl rfl) rfl
theorem dX11_comes_91 : decode cX11_comes 91 = .ok (.iload_n 2, 1) := dk28 (rd_c chX11_comes_5_04 (j := 11) rfl rfl)
theorem dX11_comes_92 : decode cX11_comes 92 = .ok (.aaload, 1) := dk50 (rd_c chX11_comes_5_04 (j := 12) rfl rfl)
theorem dX11_comes_93 : decode cX11_comes 93 = .ok (.iload_n 3, 1) := dk29 (rd_c chX11_comes_5_04 (j := 13) rfl rfl)
theorem dX11_comes_94 : decode cX11_comes 94 = .ok (.iaload, 1) := dk46 (rd_c chX11_comes_5_04 (j := 14) rfl rfl)
theorem chX11_comes_6_04 : ((cX11_comes.data.toList.drop 96).take 16).map UInt8.toNat = [159, 160, 0, 7, 2, 167, 0, 11, 42, 180, 0, 67, 28, 50, 29, 46] := by decide +kernel
theorem dX11_comes_95 : decode cX11_comes 95 = .ok (.ldc 159, 2) := dk18 (rd_c chX11_comes_5_04 (j := 15) rfl rfl) (rd_c chX11_comes_6_04 (j := 0) rfl rfl)
theorem dX11_comes_97 : decode cX11_comes 97 = .ok (.if_icmp .ne 7, 3) := dk160 (rd_c chX11_comes_6_04 (j := 1) rfl rfl) (rd_c chX11_comes_6_04 (j := 2) rfl rfl) (rd_c chX11_comes_6_04 (j := 3) rfl rfl) rfl
theorem dX11_comes_100 : decode cX11_comes 100 = .ok (.iconst (-1), 1) := dk2 (rd_c chX11_comes_6_04 (j := 4) rfl rfl)
theorem dX11_comes_101 : decode cX11_comes 101 = .ok (.goto 11, 3) := dk167 (rd_c chX11_comes_6_04 (j := 5) rfl rfl) (rd_c chX11_comes_6_04 (j := 6) rfl rfl) (rd_c chX11_comes_6_04 (j := 7) rfl rfl) rfl
theorem dX11_comes_104 : decode cX11_comes 104 = .ok (.aload_n 0, 1) := dk42 (rd_c chX11_comes_6_04 (j := 8) rfl rfl)
theorem dX11_comes_105 : decode cX11_comes 105 = .ok (.getfield 67, 3) := dk180 (rd_c chX11_comes_6_04 (j := 9) rfl rfl) (rd_c chX11_comes_6_04 (j := 10) rfl rfl) (rd_c chX11_comes_6_04 (j := 11) rfl rfl) rfl
theorem dX11_comes_108 : decode cX11_comes 108 = .ok (.iload_n 2, 1) := dk28 (rd_c chX11_comes_6_04 (j := 12) rfl rfl)
theorem dX11_comes_109 : decode cX11_comes 109 = .ok (.aaload, 1) := dk50 (rd_c chX11_comes_6_04 (j := 13) rfl rfl)
theorem dX11_comes_110 : decode cX11_comes 110 = .ok (.iload_n 3, 1) := dk29 (rd_c chX11_comes_6_04 (j := 14) rfl rfl)
theorem dX11_comes_111 : decode cX11_comes 111 = .ok (.iaload, 1) := dk46 (rd_c chX11_comes_6_04 (j := 15) rfl rfl)
theorem chX11_comes_7_04 : ((cX11_comes.data.toList.drop 112).take 16).map UInt8.toNat = [172, 2, 172] := by decide +kernel
theorem dX11_comes_112 : decode cX11_comes 112 = .ok (.ireturn, 1) := dk172 (rd_c chX11_comes_7_04 (j := 0) rfl rfl)
theorem dX11_comes_113 : decode cX11_comes 113 = .ok (.iconst (-1), 1) := dk2 (rd_c chX11_comes_7_04 (j := 1) rfl rfl)
theorem dX11_comes_114 : decode cX11_comes 114 = .ok (.ireturn, 1) := dk172 (rd_c chX11_comes_7_04 (j := 2) rfl rfl)
set_option maxRecDepth 20000 in
theorem ggX11_feed_X11_put : GoodIn wsX11_feed wsX11_put := goodIn_sub (show ∀ w ∈ wsX11_put, w ∈ wsX11_feed from (List.forall_mem_cons.mpr ⟨List.mem_cons_of_mem _ (List.mem_append_left _ (List.mem_of_getElem? (i := 5) rfl)), (gw_a (List.forall_mem_cons.mpr ⟨List.mem_cons_of_mem _ (List.mem_append_left _ (List.mem_of_getElem? (i := 6) rfl)), (List.forall_mem_cons.mpr ⟨List.mem_cons_of_mem _ (List.mem_append_left _ (List.mem_of_getElem? (i := 0) rfl)), (fun _ h => absurd h List.not_mem_nil)⟩)⟩) (fun _ h => List.mem_cons_of_mem _ (List.mem_append_right _ (h))))⟩)) (by decide +kernel)
set_option maxRecDepth 20000 in
theorem gX11_feed_X11_put : GoodIn wsX11_feed (wsV RX11 200 RX11 yX11_put wsX11_put) := goodIn_app (goodIn_sub (List.forall_mem_cons.mpr ⟨List.mem_cons_of_mem _ (List.mem_append_left _ (List.mem_of_getElem? (i := 1) rfl)), (List.forall_mem_cons.mpr ⟨List.mem_cons_of_mem _ (List.mem_append_left _ (List.mem_of_getElem? (i := 2) rfl)), (List.forall_mem_cons.mpr ⟨List.mem_cons_of_mem _ (List.mem_append_left _ (List.mem_of_getElem? (i := 3) rfl)), (List.forall_mem_cons.mpr ⟨List.mem_cons_of_mem _ (List.mem_append_left _ (List.mem_of_getElem? (i := 4) rfl)), (fun _ h => absurd h List.not_mem_nil)⟩)⟩)⟩)⟩) (by decide +kernel)) ggX11_feed_X11_put
theorem chX11_feed_0_04 : ((cX11_feed.data.toList.drop 0).take 16).map UInt8.toNat = [42, 180, 0, 197, 16, 20, 96, 17, 1, 44, 164, 0, 5, 2, 172, 42] := by decide +kernel
theorem dX11_feed_0 : decode cX11_feed 0 = .ok (.aload_n 0, 1) := dk42 (rd_c chX11_feed_0_04 (j := 0) rfl rfl)
theorem dX11_feed_1 : decode cX11_feed 1 = .ok (.getfield 197, 3) := dk180 (rd_c chX11_feed_0_04 (j := 1) rfl rfl) (rd_c chX11_feed_0_04 (j := 2) rfl rfl) (rd_c chX11_feed_0_04 (j := 3) rfl rfl) rfl
theorem dX11_feed_4 : decode cX11_feed 4 = .ok (.bipush 20, 2) := dk16 (rd_c chX11_feed_0_04 (j := 4) rfl rfl) (rd_c chX11_feed_0_04 (j := 5) rfl rfl) rfl
theorem dX11_feed_6 : decode cX11_feed 6 = .ok (.iadd, 1) := dk96 (rd_c chX11_feed_0_04 (j := 6) rfl rfl)
theorem dX11_feed_7 : decode cX11_feed 7 = .ok (.sipush 300, 3) := dk17 (rd_c chX11_feed_0_04 (j := 7) rfl rfl) (rd_c chX11_feed_0_04 (j := 8) rfl rfl) (rd_c chX11_feed_0_04 (j := 9) rfl rfl) rfl
theorem dX11_feed_10 : decode cX11_feed 10 = .ok (.if_icmp .le 5, 3) := dk164 (rd_c chX11_feed_0_04 (j := 10) rfl rfl) (rd_c chX11_feed_0_04 (j := 11) rfl rfl) (rd_c chX11_feed_0_04 (j := 12) rfl rfl) rfl
theorem dX11_feed_13 : decode cX11_feed 13 = .ok (.iconst (-1), 1) := dk2 (rd_c chX11_feed_0_04 (j := 13) rfl rfl)
theorem dX11_feed_14 : decode cX11_feed 14 = .ok (.ireturn, 1) := dk172 (rd_c chX11_feed_0_04 (j := 14) rfl rfl)
theorem dX11_feed_15 : decode cX11_feed 15 = .ok (.aload_n 0, 1) := dk42 (rd_c chX11_feed_0_04 (j := 15) rfl rfl)
theorem chX11_feed_1_04 : ((cX11_feed.data.toList.drop 16).take 16).map UInt8.toNat = [27, 182, 0, 200, 42, 28, 182, 0, 200, 42, 29, 182, 0, 200, 42, 21] := by decide +kernel
theorem dX11_feed_16 : decode cX11_feed 16 = .ok (.iload_n 1, 1) := dk27 (rd_c chX11_feed_1_04 (j := 0) rfl rfl)
theorem dX11_feed_17 : decode cX11_feed 17 = .ok (.invokevirtual 200, 3) := dk182 (rd_c chX11_feed_1_04 (j := 1) rfl rfl) (rd_c chX11_feed_1_04 (j := 2) rfl rfl) (rd_c chX11_feed_1_04 (j := 3) rfl rfl) rfl
theorem dX11_feed_20 : decode cX11_feed 20 = .ok (.aload_n 0, 1) := dk42 (rd_c chX11_feed_1_04 (j := 4) rfl rfl)
theorem dX11_feed_21 : decode cX11_feed 21 = .ok (.iload_n 2, 1) := dk28 (rd_c chX11_feed_1_04 (j := 5) rfl rfl)
theorem dX11_feed_22 : decode cX11_feed 22 = .ok (.invokevirtual 200, 3) := dk182 (rd_c chX11_feed_1_04 (j := 6) rfl rfl) (rd_c chX11_feed_1_04 (j := 7) rfl rfl) (rd_c chX11_feed_1_04 (j := 8) rfl rfl) rfl
theorem dX11_feed_25 : decode cX11_feed 25 = .ok (.aload_n 0, 1) := dk42 (rd_c chX11_feed_1_04 (j := 9) rfl rfl)
theorem dX11_feed_26 : decode cX11_feed 26 = .ok (.iload_n 3, 1) := dk29 (rd_c chX11_feed_1_04 (j := 10) rfl rfl)
theorem dX11_feed_27 : decode cX11_feed 27 = .ok (.invokevirtual 200, 3) := dk182 (rd_c chX11_feed_1_04 (j := 11) rfl rfl) (rd_c chX11_feed_1_04 (j := 12) rfl rfl) (rd_c chX11_feed_1_04 (j := 13) rfl rfl) rfl
theorem dX11_feed_30 : decode cX11_feed 30 = .ok (.aload_n 0, 1) := dk42 (rd_c chX11_feed_1_04 (j := 14) rfl rfl)
theorem chX11_feed_2_04 : ((cX11_feed.data.toList.drop 32).take 16).map UInt8.toNat = [4, 182, 0, 200, 42, 21, 5, 182, 0, 200, 42, 180, 0, 197, 172] := by decide +kernel
theorem dX11_feed_31 : decode cX11_feed 31 = .ok (.iload 4, 2) := dk21 (rd_c chX11_feed_1_04 (j := 15) rfl rfl) (rd_c chX11_feed_2_04 (j := 0) rfl rfl)
theorem dX11_feed_33 : decode cX11_feed 33 = .ok (.invokevirtual 200, 3) := dk182 (rd_c chX11_feed_2_04 (j := 1) rfl rfl) (rd_c chX11_feed_2_04 (j := 2) rfl rfl) (rd_c chX11_feed_2_04 (j := 3) rfl rfl) rfl
theorem dX11_feed_36 : decode cX11_feed 36 = .ok (.aload_n 0, 1) := dk42 (rd_c chX11_feed_2_04 (j := 4) rfl rfl)
theorem dX11_feed_37 : decode cX11_feed 37 = .ok (.iload 5, 2) := dk21 (rd_c chX11_feed_2_04 (j := 5) rfl rfl) (rd_c chX11_feed_2_04 (j := 6) rfl rfl)
theorem dX11_feed_39 : decode cX11_feed 39 = .ok (.invokevirtual 200, 3) := dk182 (rd_c chX11_feed_2_04 (j := 7) rfl rfl) (rd_c chX11_feed_2_04 (j := 8) rfl rfl) (rd_c chX11_feed_2_04 (j := 9) rfl rfl) rfl
theorem dX11_feed_42 : decode cX11_feed 42 = .ok (.aload_n 0, 1) := dk42 (rd_c chX11_feed_2_04 (j := 10) rfl rfl)
theorem dX11_feed_43 : decode cX11_feed 43 = .ok (.getfield 197, 3) := dk180 (rd_c chX11_feed_2_04 (j := 11) rfl rfl) (rd_c chX11_feed_2_04 (j := 12) rfl rfl) (rd_c chX11_feed_2_04 (j := 13) rfl rfl) rfl
theorem dX11_feed_46 : decode cX11_feed 46 = .ok (.ireturn, 1) := dk172 (rd_c chX11_feed_2_04 (j := 14) rfl rfl)
theorem chX11_put_0_04 : ((cX11_put.data.toList.drop 0).take 16).map UInt8.toNat = [16, 24, 61, 28, 155, 0, 32, 42, 180, 0, 70, 42, 180, 0, 197, 27] := by decide +kernel
theorem dX11_put_0 : decode cX11_put 0 = .ok (.bipush 24, 2) := dk16 (rd_c chX11_put_0_04 (j := 0) rfl rfl) (rd_c chX11_put_0_04 (j := 1) rfl rfl) rfl
theorem dX11_put_2 : decode cX11_put 2 = .ok (.istore_n 2, 1) := dk61 (rd_c chX11_put_0_04 (j := 2) rfl rfl)
theorem dX11_put_3 : decode cX11_put 3 = .ok (.iload_n 2, 1) := dk28 (rd_c chX11_put_0_04 (j := 3) rfl rfl)
theorem dX11_put_4 : decode cX11_put 4 = .ok (.ifCond .lt 32, 3) := dk155 (rd_c chX11_put_0_04 (j := 4) rfl rfl) (rd_c chX11_put_0_04 (j := 5) rfl rfl) (rd_c chX11_put_0_04 (j := 6) rfl rfl) rfl
theorem dX11_put_7 : decode cX11_put 7 = .ok (.aload_n 0, 1) := dk42 (rd_c chX11_put_0_04 (j := 7) rfl rfl)
theorem dX11_put_8 : decode cX11_put 8 = .ok (.getfield 70, 3) := dk180 (rd_c chX11_put_0_04 (j := 8) rfl rfl) (rd_c chX11_put_0_04 (j := 9) rfl rfl) (rd_c chX11_put_0_04 (j := 10) rfl rfl) rfl
theorem dX11_put_11 : decode cX11_put 11 = .ok (.aload_n 0, 1) := dk42 (rd_c chX11_put_0_04 (j := 11) rfl rfl)
theorem dX11_put_12 : decode cX11_put 12 = .ok (.getfield 197, 3) := dk180 (rd_c chX11_put_0_04 (j := 12) rfl rfl) (rd_c chX11_put_0_04 (j := 13) rfl rfl) (rd_c chX11_put_0_04 (j := 14) rfl rfl) rfl
theorem dX11_put_15 : decode cX11_put 15 = .ok (.iload_n 1, 1) := dk27 (rd_c chX11_put_0_04 (j := 15) rfl rfl)
theorem chX11_put_1_04 : ((cX11_put.data.toList.drop 16).take 16).map UInt8.toNat = [28, 122, 145, 84, 42, 89, 180, 0, 197, 4, 96, 181, 0, 197, 132, 2] := by decide +kernel
theorem dX11_put_16 : decode cX11_put 16 = .ok (.iload_n 2, 1) := dk28 (rd_c chX11_put_1_04 (j := 0) rfl rfl)
theorem dX11_put_17 : decode cX11_put 17 = .ok (.ishr, 1) := dk122 (rd_c chX11_put_1_04 (j := 1) rfl rfl)
theorem dX11_put_18 : decode cX11_put 18 = .ok (.i2b, 1) := dk145 (rd_c chX11_put_1_04 (j := 2) rfl rfl)
theorem dX11_put_19 : decode cX11_put 19 = .ok (.bastore, 1) := dk84 (rd_c chX11_put_1_04 (j := 3) rfl rfl)
theorem dX11_put_20 : decode cX11_put 20 = .ok (.aload_n 0, 1) := dk42 (rd_c chX11_put_1_04 (j := 4) rfl rfl)
theorem dX11_put_21 : decode cX11_put 21 = .ok (.dup, 1) := dk89 (rd_c chX11_put_1_04 (j := 5) rfl rfl)
theorem dX11_put_22 : decode cX11_put 22 = .ok (.getfield 197, 3) := dk180 (rd_c chX11_put_1_04 (j := 6) rfl rfl) (rd_c chX11_put_1_04 (j := 7) rfl rfl) (rd_c chX11_put_1_04 (j := 8) rfl rfl) rfl
theorem dX11_put_25 : decode cX11_put 25 = .ok (.iconst 1, 1) := dk4 (rd_c chX11_put_1_04 (j := 9) rfl rfl)
theorem dX11_put_26 : decode cX11_put 26 = .ok (.iadd, 1) := dk96 (rd_c chX11_put_1_04 (j := 10) rfl rfl)
theorem dX11_put_27 : decode cX11_put 27 = .ok (.putfield 197, 3) := dk181 (rd_c chX11_put_1_04 (j := 11) rfl rfl) (rd_c chX11_put_1_04 (j := 12) rfl rfl) (rd_c chX11_put_1_04 (j := 13) rfl rfl) rfl
theorem chX11_put_2_04 : ((cX11_put.data.toList.drop 32).take 16).map UInt8.toNat = [248, 167, 255, 226, 177] := by decide +kernel
theorem dX11_put_30 : decode cX11_put 30 = .ok (.iinc 2 (-8), 3) := dk132 (rd_c chX11_put_1_04 (j := 14) rfl rfl) (rd_c chX11_put_1_04 (j := 15) rfl rfl) (rd_c chX11_put_2_04 (j := 0) rfl rfl) rfl
theorem dX11_put_33 : decode cX11_put 33 = .ok (.goto (-30), 3) := dk167 (rd_c chX11_put_2_04 (j := 1) rfl rfl) (rd_c chX11_put_2_04 (j := 2) rfl rfl) (rd_c chX11_put_2_04 (j := 3) rfl rfl) rfl
theorem dX11_put_36 : decode cX11_put 36 = .ok (.return_, 1) := dk177 (rd_c chX11_put_2_04 (j := 4) rfl rfl)
theorem chX11_end_0_04 : ((cX11_end.data.toList.drop 0).take 16).map UInt8.toNat = [27, 155, 0, 11, 27, 42, 180, 0, 197, 164, 0, 5, 2, 172, 42, 27] := by decide +kernel
theorem dX11_end_0 : decode cX11_end 0 = .ok (.iload_n 1, 1) := dk27 (rd_c chX11_end_0_04 (j := 0) rfl rfl)
theorem dX11_end_1 : decode cX11_end 1 = .ok (.ifCond .lt 11, 3) := dk155 (rd_c chX11_end_0_04 (j := 1) rfl rfl) (rd_c chX11_end_0_04 (j := 2) rfl rfl) (rd_c chX11_end_0_04 (j := 3) rfl rfl) rfl
theorem dX11_end_4 : decode cX11_end 4 = .ok (.iload_n 1, 1) := dk27 (rd_c chX11_end_0_04 (j := 4) rfl rfl)
theorem dX11_end_5 : decode cX11_end 5 = .ok (.aload_n 0, 1) := dk42 (rd_c chX11_end_0_04 (j := 5) rfl rfl)
theorem dX11_end_6 : decode cX11_end 6 = .ok (.getfield 197, 3) := dk180 (rd_c chX11_end_0_04 (j := 6) rfl rfl) (rd_c chX11_end_0_04 (j := 7) rfl rfl) (rd_c chX11_end_0_04 (j := 8) rfl rfl) rfl
theorem dX11_end_9 : decode cX11_end 9 = .ok (.if_icmp .le 5, 3) := dk164 (rd_c chX11_end_0_04 (j := 9) rfl rfl) (rd_c chX11_end_0_04 (j := 10) rfl rfl) (rd_c chX11_end_0_04 (j := 11) rfl rfl) rfl
theorem dX11_end_12 : decode cX11_end 12 = .ok (.iconst (-1), 1) := dk2 (rd_c chX11_end_0_04 (j := 12) rfl rfl)
theorem dX11_end_13 : decode cX11_end 13 = .ok (.ireturn, 1) := dk172 (rd_c chX11_end_0_04 (j := 13) rfl rfl)
theorem dX11_end_14 : decode cX11_end 14 = .ok (.aload_n 0, 1) := dk42 (rd_c chX11_end_0_04 (j := 14) rfl rfl)
theorem dX11_end_15 : decode cX11_end 15 = .ok (.iload_n 1, 1) := dk27 (rd_c chX11_end_0_04 (j := 15) rfl rfl)
theorem chX11_end_1_04 : ((cX11_end.data.toList.drop 16).take 16).map UInt8.toNat = [181, 0, 197, 27, 172] := by decide +kernel
theorem dX11_end_16 : decode cX11_end 16 = .ok (.putfield 197, 3) := dk181 (rd_c chX11_end_1_04 (j := 0) rfl rfl) (rd_c chX11_end_1_04 (j := 1) rfl rfl) (rd_c chX11_end_1_04 (j := 2) rfl rfl) rfl
theorem dX11_end_19 : decode cX11_end 19 = .ok (.iload_n 1, 1) := dk27 (rd_c chX11_end_1_04 (j := 3) rfl rfl)
theorem dX11_end_20 : decode cX11_end 20 = .ok (.ireturn, 1) := dk172 (rd_c chX11_end_1_04 (j := 4) rfl rfl)
theorem chX11_fails_0_04 : ((cX11_fails.data.toList.drop 0).take 16).map UInt8.toNat = [42, 180, 0, 204, 154, 0, 14, 42, 4, 7, 28, 104, 96, 27, 96, 181] := by decide +kernel
theorem dX11_fails_0 : decode cX11_fails 0 = .ok (.aload_n 0, 1) := dk42 (rd_c chX11_fails_0_04 (j := 0) rfl rfl)
theorem dX11_fails_1 : decode cX11_fails 1 = .ok (.getfield 204, 3) := dk180 (rd_c chX11_fails_0_04 (j := 1) rfl rfl) (rd_c chX11_fails_0_04 (j := 2) rfl rfl) (rd_c chX11_fails_0_04 (j := 3) rfl rfl) rfl
theorem dX11_fails_4 : decode cX11_fails 4 = .ok (.ifCond .ne 14, 3) := dk154 (rd_c chX11_fails_0_04 (j := 4) rfl rfl) (rd_c chX11_fails_0_04 (j := 5) rfl rfl) (rd_c chX11_fails_0_04 (j := 6) rfl rfl) rfl
theorem dX11_fails_7 : decode cX11_fails 7 = .ok (.aload_n 0, 1) := dk42 (rd_c chX11_fails_0_04 (j := 7) rfl rfl)
theorem dX11_fails_8 : decode cX11_fails 8 = .ok (.iconst 1, 1) := dk4 (rd_c chX11_fails_0_04 (j := 8) rfl rfl)
theorem dX11_fails_9 : decode cX11_fails 9 = .ok (.iconst 4, 1) := dk7 (rd_c chX11_fails_0_04 (j := 9) rfl rfl)
theorem dX11_fails_10 : decode cX11_fails 10 = .ok (.iload_n 2, 1) := dk28 (rd_c chX11_fails_0_04 (j := 10) rfl rfl)
theorem dX11_fails_11 : decode cX11_fails 11 = .ok (.imul, 1) := dk104 (rd_c chX11_fails_0_04 (j := 11) rfl rfl)
theorem dX11_fails_12 : decode cX11_fails 12 = .ok (.iadd, 1) := dk96 (rd_c chX11_fails_0_04 (j := 12) rfl rfl)
theorem dX11_fails_13 : decode cX11_fails 13 = .ok (.iload_n 1, 1) := dk27 (rd_c chX11_fails_0_04 (j := 13) rfl rfl)
theorem dX11_fails_14 : decode cX11_fails 14 = .ok (.iadd, 1) := dk96 (rd_c chX11_fails_0_04 (j := 14) rfl rfl)
theorem chX11_fails_1_04 : ((cX11_fails.data.toList.drop 16).take 16).map UInt8.toNat = [0, 204, 177] := by decide +kernel
theorem dX11_fails_15 : decode cX11_fails 15 = .ok (.putfield 204, 3) := dk181 (rd_c chX11_fails_0_04 (j := 15) rfl rfl) (rd_c chX11_fails_1_04 (j := 0) rfl rfl) (rd_c chX11_fails_1_04 (j := 1) rfl rfl) rfl
theorem dX11_fails_18 : decode cX11_fails 18 = .ok (.return_, 1) := dk177 (rd_c chX11_fails_1_04 (j := 2) rfl rfl)
theorem chX11_isEnd_0_04 : ((cX11_isEnd.data.toList.drop 0).take 16).map UInt8.toNat = [42, 180, 0, 207, 42, 180, 0, 197, 162, 0, 30, 42, 180, 0, 70, 42] := by decide +kernel
theorem dX11_isEnd_0 : decode cX11_isEnd 0 = .ok (.aload_n 0, 1) := dk42 (rd_c chX11_isEnd_0_04 (j := 0) rfl rfl)
theorem dX11_isEnd_1 : decode cX11_isEnd 1 = .ok (.getfield 207, 3) := dk180 (rd_c chX11_isEnd_0_04 (j := 1) rfl rfl) (rd_c chX11_isEnd_0_04 (j := 2) rfl rfl) (rd_c chX11_isEnd_0_04 (j := 3) rfl rfl) rfl
theorem dX11_isEnd_4 : decode cX11_isEnd 4 = .ok (.aload_n 0, 1) := dk42 (rd_c chX11_isEnd_0_04 (j := 4) rfl rfl)
theorem dX11_isEnd_5 : decode cX11_isEnd 5 = .ok (.getfield 197, 3) := dk180 (rd_c chX11_isEnd_0_04 (j := 5) rfl rfl) (rd_c chX11_isEnd_0_04 (j := 6) rfl rfl) (rd_c chX11_isEnd_0_04 (j := 7) rfl rfl) rfl
theorem dX11_isEnd_8 : decode cX11_isEnd 8 = .ok (.if_icmp .ge 30, 3) := dk162 (rd_c chX11_isEnd_0_04 (j := 8) rfl rfl) (rd_c chX11_isEnd_0_04 (j := 9) rfl rfl) (rd_c chX11_isEnd_0_04 (j := 10) rfl rfl) rfl
theorem dX11_isEnd_11 : decode cX11_isEnd 11 = .ok (.aload_n 0, 1) := dk42 (rd_c chX11_isEnd_0_04 (j := 11) rfl rfl)
theorem dX11_isEnd_12 : decode cX11_isEnd 12 = .ok (.getfield 70, 3) := dk180 (rd_c chX11_isEnd_0_04 (j := 12) rfl rfl) (rd_c chX11_isEnd_0_04 (j := 13) rfl rfl) (rd_c chX11_isEnd_0_04 (j := 14) rfl rfl) rfl
theorem dX11_isEnd_15 : decode cX11_isEnd 15 = .ok (.aload_n 0, 1) := dk42 (rd_c chX11_isEnd_0_04 (j := 15) rfl rfl)
theorem chX11_isEnd_1_04 : ((cX11_isEnd.data.toList.drop 16).take 16).map UInt8.toNat = [180, 0, 207, 51, 16, 32, 160, 0, 16, 42, 89, 180, 0, 207, 4, 96] := by decide +kernel
theorem dX11_isEnd_16 : decode cX11_isEnd 16 = .ok (.getfield 207, 3) := dk180 (rd_c chX11_isEnd_1_04 (j := 0) rfl rfl) (rd_c chX11_isEnd_1_04 (j := 1) rfl rfl) (rd_c chX11_isEnd_1_04 (j := 2) rfl rfl) rfl
theorem dX11_isEnd_19 : decode cX11_isEnd 19 = .ok (.baload, 1) := dk51 (rd_c chX11_isEnd_1_04 (j := 3) rfl rfl)
theorem dX11_isEnd_20 : decode cX11_isEnd 20 = .ok (.bipush 32, 2) := dk16 (rd_c chX11_isEnd_1_04 (j := 4) rfl rfl) (rd_c chX11_isEnd_1_04 (j := 5) rfl rfl) rfl
theorem dX11_isEnd_22 : decode cX11_isEnd 22 = .ok (.if_icmp .ne 16, 3) := dk160 (rd_c chX11_isEnd_1_04 (j := 6) rfl rfl) (rd_c chX11_isEnd_1_04 (j := 7) rfl rfl) (rd_c chX11_isEnd_1_04 (j := 8) rfl rfl) rfl
theorem dX11_isEnd_25 : decode cX11_isEnd 25 = .ok (.aload_n 0, 1) := dk42 (rd_c chX11_isEnd_1_04 (j := 9) rfl rfl)
theorem dX11_isEnd_26 : decode cX11_isEnd 26 = .ok (.dup, 1) := dk89 (rd_c chX11_isEnd_1_04 (j := 10) rfl rfl)
theorem dX11_isEnd_27 : decode cX11_isEnd 27 = .ok (.getfield 207, 3) := dk180 (rd_c chX11_isEnd_1_04 (j := 11) rfl rfl) (rd_c chX11_isEnd_1_04 (j := 12) rfl rfl) (rd_c chX11_isEnd_1_04 (j := 13) rfl rfl) rfl
theorem dX11_isEnd_30 : decode cX11_isEnd 30 = .ok (.iconst 1, 1) := dk4 (rd_c chX11_isEnd_1_04 (j := 14) rfl rfl)
theorem dX11_isEnd_31 : decode cX11_isEnd 31 = .ok (.iadd, 1) := dk96 (rd_c chX11_isEnd_1_04 (j := 15) rfl rfl)
theorem chX11_isEnd_2_04 : ((cX11_isEnd.data.toList.drop 32).take 16).map UInt8.toNat = [181, 0, 207, 167, 255, 221, 42, 42, 180, 0, 207, 181, 0, 210, 42, 180] := by decide +kernel
theorem dX11_isEnd_32 : decode cX11_isEnd 32 = .ok (.putfield 207, 3) := dk181 (rd_c chX11_isEnd_2_04 (j := 0) rfl rfl) (rd_c chX11_isEnd_2_04 (j := 1) rfl rfl) (rd_c chX11_isEnd_2_04 (j := 2) rfl rfl) rfl
theorem dX11_isEnd_35 : decode cX11_isEnd 35 = .ok (.goto (-35), 3) := dk167 (rd_c chX11_isEnd_2_04 (j := 3) rfl rfl) (rd_c chX11_isEnd_2_04 (j := 4) rfl rfl) (rd_c chX11_isEnd_2_04 (j := 5) rfl rfl) rfl
theorem dX11_isEnd_38 : decode cX11_isEnd 38 = .ok (.aload_n 0, 1) := dk42 (rd_c chX11_isEnd_2_04 (j := 6) rfl rfl)
theorem dX11_isEnd_39 : decode cX11_isEnd 39 = .ok (.aload_n 0, 1) := dk42 (rd_c chX11_isEnd_2_04 (j := 7) rfl rfl)
theorem dX11_isEnd_40 : decode cX11_isEnd 40 = .ok (.getfield 207, 3) := dk180 (rd_c chX11_isEnd_2_04 (j := 8) rfl rfl) (rd_c chX11_isEnd_2_04 (j := 9) rfl rfl) (rd_c chX11_isEnd_2_04 (j := 10) rfl rfl) rfl
theorem dX11_isEnd_43 : decode cX11_isEnd 43 = .ok (.putfield 210, 3) := dk181 (rd_c chX11_isEnd_2_04 (j := 11) rfl rfl) (rd_c chX11_isEnd_2_04 (j := 12) rfl rfl) (rd_c chX11_isEnd_2_04 (j := 13) rfl rfl) rfl
theorem dX11_isEnd_46 : decode cX11_isEnd 46 = .ok (.aload_n 0, 1) := dk42 (rd_c chX11_isEnd_2_04 (j := 14) rfl rfl)
theorem chX11_isEnd_3_04 : ((cX11_isEnd.data.toList.drop 48).take 16).map UInt8.toNat = [0, 207, 42, 180, 0, 197, 160, 0, 7, 4, 167, 0, 4, 3, 172] := by decide +kernel
theorem dX11_isEnd_47 : decode cX11_isEnd 47 = .ok (.getfield 207, 3) := dk180 (rd_c chX11_isEnd_2_04 (j := 15) rfl rfl) (rd_c chX11_isEnd_3_04 (j := 0) rfl rfl) (rd_c chX11_isEnd_3_04 (j := 1) rfl rfl) rfl
theorem dX11_isEnd_50 : decode cX11_isEnd 50 = .ok (.aload_n 0, 1) := dk42 (rd_c chX11_isEnd_3_04 (j := 2) rfl rfl)
theorem dX11_isEnd_51 : decode cX11_isEnd 51 = .ok (.getfield 197, 3) := dk180 (rd_c chX11_isEnd_3_04 (j := 3) rfl rfl) (rd_c chX11_isEnd_3_04 (j := 4) rfl rfl) (rd_c chX11_isEnd_3_04 (j := 5) rfl rfl) rfl
theorem dX11_isEnd_54 : decode cX11_isEnd 54 = .ok (.if_icmp .ne 7, 3) := dk160 (rd_c chX11_isEnd_3_04 (j := 6) rfl rfl) (rd_c chX11_isEnd_3_04 (j := 7) rfl rfl) (rd_c chX11_isEnd_3_04 (j := 8) rfl rfl) rfl
theorem dX11_isEnd_57 : decode cX11_isEnd 57 = .ok (.iconst 1, 1) := dk4 (rd_c chX11_isEnd_3_04 (j := 9) rfl rfl)
theorem dX11_isEnd_58 : decode cX11_isEnd 58 = .ok (.goto 4, 3) := dk167 (rd_c chX11_isEnd_3_04 (j := 10) rfl rfl) (rd_c chX11_isEnd_3_04 (j := 11) rfl rfl) (rd_c chX11_isEnd_3_04 (j := 12) rfl rfl) rfl
theorem dX11_isEnd_61 : decode cX11_isEnd 61 = .ok (.iconst 0, 1) := dk3 (rd_c chX11_isEnd_3_04 (j := 13) rfl rfl)
theorem dX11_isEnd_62 : decode cX11_isEnd 62 = .ok (.ireturn, 1) := dk172 (rd_c chX11_isEnd_3_04 (j := 14) rfl rfl)
theorem chX11_isLetter_0_04 : ((cX11_isLetter.data.toList.drop 0).take 16).map UInt8.toNat = [42, 180, 0, 207, 42, 180, 0, 197, 162, 0, 35, 42, 180, 0, 70, 42] := by decide +kernel
theorem dX11_isLetter_0 : decode cX11_isLetter 0 = .ok (.aload_n 0, 1) := dk42 (rd_c chX11_isLetter_0_04 (j := 0) rfl rfl)
theorem dX11_isLetter_1 : decode cX11_isLetter 1 = .ok (.getfield 207, 3) := dk180 (rd_c chX11_isLetter_0_04 (j := 1) rfl rfl) (rd_c chX11_isLetter_0_04 (j := 2) rfl rfl) (rd_c chX11_isLetter_0_04 (j := 3) rfl rfl) rfl
theorem dX11_isLetter_4 : decode cX11_isLetter 4 = .ok (.aload_n 0, 1) := dk42 (rd_c chX11_isLetter_0_04 (j := 4) rfl rfl)
theorem dX11_isLetter_5 : decode cX11_isLetter 5 = .ok (.getfield 197, 3) := dk180 (rd_c chX11_isLetter_0_04 (j := 5) rfl rfl) (rd_c chX11_isLetter_0_04 (j := 6) rfl rfl) (rd_c chX11_isLetter_0_04 (j := 7) rfl rfl) rfl
theorem dX11_isLetter_8 : decode cX11_isLetter 8 = .ok (.if_icmp .ge 35, 3) := dk162 (rd_c chX11_isLetter_0_04 (j := 8) rfl rfl) (rd_c chX11_isLetter_0_04 (j := 9) rfl rfl) (rd_c chX11_isLetter_0_04 (j := 10) rfl rfl) rfl
theorem dX11_isLetter_11 : decode cX11_isLetter 11 = .ok (.aload_n 0, 1) := dk42 (rd_c chX11_isLetter_0_04 (j := 11) rfl rfl)
theorem dX11_isLetter_12 : decode cX11_isLetter 12 = .ok (.getfield 70, 3) := dk180 (rd_c chX11_isLetter_0_04 (j := 12) rfl rfl) (rd_c chX11_isLetter_0_04 (j := 13) rfl rfl) (rd_c chX11_isLetter_0_04 (j := 14) rfl rfl) rfl
theorem dX11_isLetter_15 : decode cX11_isLetter 15 = .ok (.aload_n 0, 1) := dk42 (rd_c chX11_isLetter_0_04 (j := 15) rfl rfl)
theorem chX11_isLetter_1_04 : ((cX11_isLetter.data.toList.drop 16).take 16).map UInt8.toNat = [180, 0, 207, 51, 16, 97, 161, 0, 21, 42, 180, 0, 70, 42, 180, 0] := by decide +kernel
theorem dX11_isLetter_16 : decode cX11_isLetter 16 = .ok (.getfield 207, 3) := dk180 (rd_c chX11_isLetter_1_04 (j := 0) rfl rfl) (rd_c chX11_isLetter_1_04 (j := 1) rfl rfl) (rd_c chX11_isLetter_1_04 (j := 2) rfl rfl) rfl
theorem dX11_isLetter_19 : decode cX11_isLetter 19 = .ok (.baload, 1) := dk51 (rd_c chX11_isLetter_1_04 (j := 3) rfl rfl)
theorem dX11_isLetter_20 : decode cX11_isLetter 20 = .ok (.bipush 97, 2) := dk16 (rd_c chX11_isLetter_1_04 (j := 4) rfl rfl) (rd_c chX11_isLetter_1_04 (j := 5) rfl rfl) rfl
theorem dX11_isLetter_22 : decode cX11_isLetter 22 = .ok (.if_icmp .lt 21, 3) := dk161 (rd_c chX11_isLetter_1_04 (j := 6) rfl rfl) (rd_c chX11_isLetter_1_04 (j := 7) rfl rfl) (rd_c chX11_isLetter_1_04 (j := 8) rfl rfl) rfl
theorem dX11_isLetter_25 : decode cX11_isLetter 25 = .ok (.aload_n 0, 1) := dk42 (rd_c chX11_isLetter_1_04 (j := 9) rfl rfl)
theorem dX11_isLetter_26 : decode cX11_isLetter 26 = .ok (.getfield 70, 3) := dk180 (rd_c chX11_isLetter_1_04 (j := 10) rfl rfl) (rd_c chX11_isLetter_1_04 (j := 11) rfl rfl) (rd_c chX11_isLetter_1_04 (j := 12) rfl rfl) rfl
theorem dX11_isLetter_29 : decode cX11_isLetter 29 = .ok (.aload_n 0, 1) := dk42 (rd_c chX11_isLetter_1_04 (j := 13) rfl rfl)
theorem chX11_isLetter_2_04 : ((cX11_isLetter.data.toList.drop 32).take 16).map UInt8.toNat = [207, 51, 16, 122, 163, 0, 7, 4, 167, 0, 4, 3, 172] := by decide +kernel
theorem dX11_isLetter_30 : decode cX11_isLetter 30 = .ok (.getfield 207, 3) := dk180 (rd_c chX11_isLetter_1_04 (j := 14) rfl rfl) (rd_c chX11_isLetter_1_04 (j := 15) rfl rfl) (rd_c chX11_isLetter_2_04 (j := 0) rfl rfl) rfl
theorem dX11_isLetter_33 : decode cX11_isLetter 33 = .ok (.baload, 1) := dk51 (rd_c chX11_isLetter_2_04 (j := 1) rfl rfl)
theorem dX11_isLetter_34 : decode cX11_isLetter 34 = .ok (.bipush 122, 2) := dk16 (rd_c chX11_isLetter_2_04 (j := 2) rfl rfl) (rd_c chX11_isLetter_2_04 (j := 3) rfl rfl) rfl
theorem dX11_isLetter_36 : decode cX11_isLetter 36 = .ok (.if_icmp .gt 7, 3) := dk163 (rd_c chX11_isLetter_2_04 (j := 4) rfl rfl) (rd_c chX11_isLetter_2_04 (j := 5) rfl rfl) (rd_c chX11_isLetter_2_04 (j := 6) rfl rfl) rfl
theorem dX11_isLetter_39 : decode cX11_isLetter 39 = .ok (.iconst 1, 1) := dk4 (rd_c chX11_isLetter_2_04 (j := 7) rfl rfl)
theorem dX11_isLetter_40 : decode cX11_isLetter 40 = .ok (.goto 4, 3) := dk167 (rd_c chX11_isLetter_2_04 (j := 8) rfl rfl) (rd_c chX11_isLetter_2_04 (j := 9) rfl rfl) (rd_c chX11_isLetter_2_04 (j := 10) rfl rfl) rfl
theorem dX11_isLetter_43 : decode cX11_isLetter 43 = .ok (.iconst 0, 1) := dk3 (rd_c chX11_isLetter_2_04 (j := 11) rfl rfl)
theorem dX11_isLetter_44 : decode cX11_isLetter 44 = .ok (.ireturn, 1) := dk172 (rd_c chX11_isLetter_2_04 (j := 12) rfl rfl)
set_option maxRecDepth 20000 in
theorem ggX11_word_X11_isEnd : GoodIn wsX11_word wsX11_isEnd := goodIn_sub (show ∀ w ∈ wsX11_isEnd, w ∈ wsX11_word from (List.forall_mem_cons.mpr ⟨List.mem_cons_of_mem _ (List.mem_append_left _ (List.mem_of_getElem? (i := 6) rfl)), (gw_a (List.forall_mem_cons.mpr ⟨List.mem_cons_of_mem _ (List.mem_append_left _ (List.mem_of_getElem? (i := 0) rfl)), (List.forall_mem_cons.mpr ⟨List.mem_cons_of_mem _ (List.mem_append_left _ (List.mem_of_getElem? (i := 7) rfl)), (List.forall_mem_cons.mpr ⟨List.mem_cons_of_mem _ (List.mem_append_left _ (List.mem_of_getElem? (i := 8) rfl)), (List.forall_mem_cons.mpr ⟨List.mem_cons_of_mem _ (List.mem_append_left _ (List.mem_of_getElem? (i := 1) rfl)), (fun _ h => absurd h List.not_mem_nil)⟩)⟩)⟩)⟩) (fun _ h => List.mem_cons_of_mem _ (List.mem_append_right _ (h))))⟩)) (by decide +kernel)
set_option maxRecDepth 20000 in
theorem gX11_word_X11_isEnd : GoodIn wsX11_word (wsV RX11 213 RX11 yX11_isEnd wsX11_isEnd) := goodIn_app (goodIn_sub (List.forall_mem_cons.mpr ⟨List.mem_cons_of_mem _ (List.mem_append_left _ (List.mem_of_getElem? (i := 2) rfl)), (List.forall_mem_cons.mpr ⟨List.mem_cons_of_mem _ (List.mem_append_left _ (List.mem_of_getElem? (i := 3) rfl)), (List.forall_mem_cons.mpr ⟨List.mem_cons_of_mem _ (List.mem_append_left _ (List.mem_of_getElem? (i := 4) rfl)), (List.forall_mem_cons.mpr ⟨List.mem_cons_of_mem _ (List.mem_append_left _ (List.mem_of_getElem? (i := 5) rfl)), (fun _ h => absurd h List.not_mem_nil)⟩)⟩)⟩)⟩) (by decide +kernel)) ggX11_word_X11_isEnd
set_option maxRecDepth 20000 in
theorem ggX11_word_X11_isLetter : GoodIn wsX11_word wsX11_isLetter := goodIn_sub (show ∀ w ∈ wsX11_isLetter, w ∈ wsX11_word from (List.forall_mem_cons.mpr ⟨List.mem_cons_of_mem _ (List.mem_append_left _ (List.mem_of_getElem? (i := 12) rfl)), (gw_a (List.forall_mem_cons.mpr ⟨List.mem_cons_of_mem _ (List.mem_append_left _ (List.mem_of_getElem? (i := 0) rfl)), (List.forall_mem_cons.mpr ⟨List.mem_cons_of_mem _ (List.mem_append_left _ (List.mem_of_getElem? (i := 7) rfl)), (List.forall_mem_cons.mpr ⟨List.mem_cons_of_mem _ (List.mem_append_left _ (List.mem_of_getElem? (i := 8) rfl)), (fun _ h => absurd h List.not_mem_nil)⟩)⟩)⟩) (fun _ h => List.mem_cons_of_mem _ (List.mem_append_right _ (h))))⟩)) (by decide +kernel)
set_option maxRecDepth 20000 in
theorem gX11_word_X11_isLetter : GoodIn wsX11_word (wsV RX11 217 RX11 yX11_isLetter wsX11_isLetter) := goodIn_app (goodIn_sub (List.forall_mem_cons.mpr ⟨List.mem_cons_of_mem _ (List.mem_append_left _ (List.mem_of_getElem? (i := 9) rfl)), (List.forall_mem_cons.mpr ⟨List.mem_cons_of_mem _ (List.mem_append_left _ (List.mem_of_getElem? (i := 10) rfl)), (List.forall_mem_cons.mpr ⟨List.mem_cons_of_mem _ (List.mem_append_left _ (List.mem_of_getElem? (i := 11) rfl)), (List.forall_mem_cons.mpr ⟨List.mem_cons_of_mem _ (List.mem_append_left _ (List.mem_of_getElem? (i := 5) rfl)), (fun _ h => absurd h List.not_mem_nil)⟩)⟩)⟩)⟩) (by decide +kernel)) ggX11_word_X11_isLetter
set_option maxRecDepth 20000 in
theorem ggX11_word_X11_fails : GoodIn wsX11_word wsX11_fails := goodIn_sub (show ∀ w ∈ wsX11_fails, w ∈ wsX11_word from (List.forall_mem_cons.mpr ⟨List.mem_cons_of_mem _ (List.mem_append_left _ (List.mem_of_getElem? (i := 16) rfl)), (gw_a (List.forall_mem_cons.mpr ⟨List.mem_cons_of_mem _ (List.mem_append_left _ (List.mem_of_getElem? (i := 17) rfl)), (fun _ h => absurd h List.not_mem_nil)⟩) (fun _ h => List.mem_cons_of_mem _ (List.mem_append_right _ (h))))⟩)) (by decide +kernel)
set_option maxRecDepth 20000 in
theorem gX11_word_X11_fails : GoodIn wsX11_word (wsV RX11 220 RX11 yX11_fails wsX11_fails) := goodIn_app (goodIn_sub (List.forall_mem_cons.mpr ⟨List.mem_cons_of_mem _ (List.mem_append_left _ (List.mem_of_getElem? (i := 13) rfl)), (List.forall_mem_cons.mpr ⟨List.mem_cons_of_mem _ (List.mem_append_left _ (List.mem_of_getElem? (i := 14) rfl)), (List.forall_mem_cons.mpr ⟨List.mem_cons_of_mem _ (List.mem_append_left _ (List.mem_of_getElem? (i := 15) rfl)), (List.forall_mem_cons.mpr ⟨List.mem_cons_of_mem _ (List.mem_append_left _ (List.mem_of_getElem? (i := 5) rfl)), (fun _ h => absurd h List.not_mem_nil)⟩)⟩)⟩)⟩) (by decide +kernel)) ggX11_word_X11_fails
