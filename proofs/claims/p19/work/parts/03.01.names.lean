theorem dX4_netAll_30 : decode cX4_netAll 30 = .ok (.iload_n 2, 1) := by decide +kernel
theorem dX4_netAll_31 : decode cX4_netAll 31 = .ok (.invokevirtual 63, 3) := by decide +kernel
theorem dX4_netAll_34 : decode cX4_netAll 34 = .ok (.iinc 2 1, 3) := by decide +kernel
theorem dX4_netAll_37 : decode cX4_netAll 37 = .ok (.goto (-20), 3) := by decide +kernel
theorem dX4_netAll_40 : decode cX4_netAll 40 = .ok (.return_, 1) := by decide +kernel
set_option maxRecDepth 20000 in
theorem ggX4_netAmongTowns_X4_addGift : GoodIn wsX4_netAmongTowns wsX4_addGift := goodIn_sub (show ∀ w ∈ wsX4_addGift, w ∈ wsX4_netAmongTowns from (List.forall_mem_cons.mpr ⟨List.mem_cons_of_mem _ (List.mem_append_left _ (List.mem_append_left _ (List.mem_of_getElem? (i := 10) rfl))), (gw_a (List.forall_mem_cons.mpr ⟨List.mem_cons_of_mem _ (List.mem_append_left _ (List.mem_append_left _ (List.mem_of_getElem? (i := 11) rfl))), (List.forall_mem_cons.mpr ⟨List.mem_cons_of_mem _ (List.mem_append_left _ (List.mem_append_left _ (List.mem_of_getElem? (i := 12) rfl))), (List.forall_mem_cons.mpr ⟨List.mem_cons_of_mem _ (List.mem_append_left _ (List.mem_append_left _ (List.mem_of_getElem? (i := 13) rfl))), (List.forall_mem_cons.mpr ⟨List.mem_cons_of_mem _ (List.mem_append_left _ (List.mem_append_left _ (List.mem_of_getElem? (i := 14) rfl))), (List.forall_mem_cons.mpr ⟨List.mem_cons_of_mem _ (List.mem_append_left _ (List.mem_append_left _ (List.mem_of_getElem? (i := 15) rfl))), (fun _ h => absurd h List.not_mem_nil)⟩)⟩)⟩)⟩)⟩) (fun _ h => List.mem_cons_of_mem _ (List.mem_append_right _ (h))))⟩)) (by decide +kernel)
set_option maxRecDepth 20000 in
theorem gX4_netAmongTowns_X4_addGift : GoodIn wsX4_netAmongTowns (wsV RX4 77 RX4 yX4_addGift wsX4_addGift) := goodIn_app (goodIn_sub (List.forall_mem_cons.mpr ⟨List.mem_cons_of_mem _ (List.mem_append_left _ (List.mem_append_left _ (List.mem_of_getElem? (i := 6) rfl))), (List.forall_mem_cons.mpr ⟨List.mem_cons_of_mem _ (List.mem_append_left _ (List.mem_append_left _ (List.mem_of_getElem? (i := 7) rfl))), (List.forall_mem_cons.mpr ⟨List.mem_cons_of_mem _ (List.mem_append_left _ (List.mem_append_left _ (List.mem_of_getElem? (i := 8) rfl))), (List.forall_mem_cons.mpr ⟨List.mem_cons_of_mem _ (List.mem_append_left _ (List.mem_append_left _ (List.mem_of_getElem? (i := 9) rfl))), (fun _ h => absurd h List.not_mem_nil)⟩)⟩)⟩)⟩) (by decide +kernel)) ggX4_netAmongTowns_X4_addGift
theorem dX4_netAmongTowns_0 : decode cX4_netAmongTowns 0 = .ok (.iconst 0, 1) := by decide +kernel
theorem dX4_netAmongTowns_1 : decode cX4_netAmongTowns 1 = .ok (.istore_n 3, 1) := by decide +kernel
theorem dX4_netAmongTowns_2 : decode cX4_netAmongTowns 2 = .ok (.iload_n 3, 1) := by decide +kernel
theorem dX4_netAmongTowns_3 : decode cX4_netAmongTowns 3 = .ok (.bipush 12, 2) := by decide +kernel
theorem dX4_netAmongTowns_5 : decode cX4_netAmongTowns 5 = .ok (.if_icmp .ge 133, 3) := by decide +kernel
theorem dX4_netAmongTowns_8 : decode cX4_netAmongTowns 8 = .ok (.iconst 0, 1) := by decide +kernel
theorem dX4_netAmongTowns_9 : decode cX4_netAmongTowns 9 = .ok (.istore 4, 2) := by decide +kernel
theorem dX4_netAmongTowns_11 : decode cX4_netAmongTowns 11 = .ok (.iload 4, 2) := by decide +kernel
theorem dX4_netAmongTowns_13 : decode cX4_netAmongTowns 13 = .ok (.bipush 12, 2) := by decide +kernel
theorem dX4_netAmongTowns_15 : decode cX4_netAmongTowns 15 = .ok (.if_icmp .ge 117, 3) := by decide +kernel
theorem dX4_netAmongTowns_18 : decode cX4_netAmongTowns 18 = .ok (.aload_n 1, 1) := by decide +kernel
theorem dX4_netAmongTowns_19 : decode cX4_netAmongTowns 19 = .ok (.iload_n 3, 1) := by decide +kernel
theorem dX4_netAmongTowns_20 : decode cX4_netAmongTowns 20 = .ok (.aaload, 1) := by decide +kernel
theorem dX4_netAmongTowns_21 : decode cX4_netAmongTowns 21 = .ok (.getfield 66, 3) := by decide +kernel
theorem dX4_netAmongTowns_24 : decode cX4_netAmongTowns 24 = .ok (.iload_n 2, 1) := by decide +kernel
theorem dX4_netAmongTowns_25 : decode cX4_netAmongTowns 25 = .ok (.if_icmp .ne 18, 3) := by decide +kernel
theorem dX4_netAmongTowns_28 : decode cX4_netAmongTowns 28 = .ok (.aload_n 1, 1) := by decide +kernel
theorem dX4_netAmongTowns_29 : decode cX4_netAmongTowns 29 = .ok (.iload 4, 2) := by decide +kernel
theorem dX4_netAmongTowns_31 : decode cX4_netAmongTowns 31 = .ok (.aaload, 1) := by decide +kernel
theorem dX4_netAmongTowns_32 : decode cX4_netAmongTowns 32 = .ok (.getfield 66, 3) := by decide +kernel
theorem dX4_netAmongTowns_35 : decode cX4_netAmongTowns 35 = .ok (.iload_n 2, 1) := by decide +kernel
theorem dX4_netAmongTowns_36 : decode cX4_netAmongTowns 36 = .ok (.if_icmp .ne 7, 3) := by decide +kernel
theorem dX4_netAmongTowns_39 : decode cX4_netAmongTowns 39 = .ok (.iconst 1, 1) := by decide +kernel
theorem dX4_netAmongTowns_40 : decode cX4_netAmongTowns 40 = .ok (.goto 4, 3) := by decide +kernel
theorem dX4_netAmongTowns_43 : decode cX4_netAmongTowns 43 = .ok (.iconst 0, 1) := by decide +kernel
theorem dX4_netAmongTowns_44 : decode cX4_netAmongTowns 44 = .ok (.istore 5, 2) := by decide +kernel
theorem dX4_netAmongTowns_46 : decode cX4_netAmongTowns 46 = .ok (.iload 5, 2) := by decide +kernel
theorem dX4_netAmongTowns_48 : decode cX4_netAmongTowns 48 = .ok (.ifCond .eq 78, 3) := by decide +kernel
theorem dX4_netAmongTowns_51 : decode cX4_netAmongTowns 51 = .ok (.aload_n 0, 1) := by decide +kernel
theorem dX4_netAmongTowns_52 : decode cX4_netAmongTowns 52 = .ok (.getfield 22, 3) := by decide +kernel
theorem dX4_netAmongTowns_55 : decode cX4_netAmongTowns 55 = .ok (.iload_n 3, 1) := by decide +kernel
theorem dX4_netAmongTowns_56 : decode cX4_netAmongTowns 56 = .ok (.laload, 1) := by decide +kernel
theorem dX4_netAmongTowns_57 : decode cX4_netAmongTowns 57 = .ok (.lconst 0, 1) := by decide +kernel
theorem dX4_netAmongTowns_58 : decode cX4_netAmongTowns 58 = .ok (.lcmp, 1) := by decide +kernel
theorem dX4_netAmongTowns_59 : decode cX4_netAmongTowns 59 = .ok (.ifCond .ge 67, 3) := by decide +kernel
theorem dX4_netAmongTowns_62 : decode cX4_netAmongTowns 62 = .ok (.aload_n 0, 1) := by decide +kernel
theorem dX4_netAmongTowns_63 : decode cX4_netAmongTowns 63 = .ok (.getfield 22, 3) := by decide +kernel
theorem dX4_netAmongTowns_66 : decode cX4_netAmongTowns 66 = .ok (.iload 4, 2) := by decide +kernel
theorem dX4_netAmongTowns_68 : decode cX4_netAmongTowns 68 = .ok (.laload, 1) := by decide +kernel
theorem dX4_netAmongTowns_69 : decode cX4_netAmongTowns 69 = .ok (.lconst 0, 1) := by decide +kernel
theorem dX4_netAmongTowns_70 : decode cX4_netAmongTowns 70 = .ok (.lcmp, 1) := by decide +kernel
theorem dX4_netAmongTowns_71 : decode cX4_netAmongTowns 71 = .ok (.ifCond .le 55, 3) := by decide +kernel
theorem dX4_netAmongTowns_74 : decode cX4_netAmongTowns 74 = .ok (.aload_n 0, 1) := by decide +kernel
theorem dX4_netAmongTowns_75 : decode cX4_netAmongTowns 75 = .ok (.getfield 22, 3) := by decide +kernel
theorem dX4_netAmongTowns_78 : decode cX4_netAmongTowns 78 = .ok (.iload_n 3, 1) := by decide +kernel
theorem dX4_netAmongTowns_79 : decode cX4_netAmongTowns 79 = .ok (.laload, 1) := by decide +kernel
theorem dX4_netAmongTowns_80 : decode cX4_netAmongTowns 80 = .ok (.lneg, 1) := by decide +kernel
theorem dX4_netAmongTowns_81 : decode cX4_netAmongTowns 81 = .ok (.aload_n 0, 1) := by decide +kernel
theorem dX4_netAmongTowns_82 : decode cX4_netAmongTowns 82 = .ok (.getfield 22, 3) := by decide +kernel
theorem dX4_netAmongTowns_85 : decode cX4_netAmongTowns 85 = .ok (.iload 4, 2) := by decide +kernel
theorem dX4_netAmongTowns_87 : decode cX4_netAmongTowns 87 = .ok (.laload, 1) := by decide +kernel
theorem dX4_netAmongTowns_88 : decode cX4_netAmongTowns 88 = .ok (.invokestatic 71, 3) := by decide +kernel
theorem dX4_netAmongTowns_91 : decode cX4_netAmongTowns 91 = .ok (.lstore 6, 2) := by decide +kernel
theorem dX4_netAmongTowns_93 : decode cX4_netAmongTowns 93 = .ok (.aload_n 0, 1) := by decide +kernel
theorem dX4_netAmongTowns_94 : decode cX4_netAmongTowns 94 = .ok (.getfield 22, 3) := by decide +kernel
theorem dX4_netAmongTowns_97 : decode cX4_netAmongTowns 97 = .ok (.iload_n 3, 1) := by decide +kernel
theorem dX4_netAmongTowns_98 : decode cX4_netAmongTowns 98 = .ok (.dup2, 1) := by decide +kernel
theorem dX4_netAmongTowns_99 : decode cX4_netAmongTowns 99 = .ok (.laload, 1) := by decide +kernel
theorem dX4_netAmongTowns_100 : decode cX4_netAmongTowns 100 = .ok (.lload 6, 2) := by decide +kernel
theorem dX4_netAmongTowns_102 : decode cX4_netAmongTowns 102 = .ok (.ladd, 1) := by decide +kernel
theorem dX4_netAmongTowns_103 : decode cX4_netAmongTowns 103 = .ok (.lastore, 1) := by decide +kernel
theorem dX4_netAmongTowns_104 : decode cX4_netAmongTowns 104 = .ok (.aload_n 0, 1) := by decide +kernel
theorem dX4_netAmongTowns_105 : decode cX4_netAmongTowns 105 = .ok (.getfield 22, 3) := by decide +kernel
theorem dX4_netAmongTowns_108 : decode cX4_netAmongTowns 108 = .ok (.iload 4, 2) := by decide +kernel
theorem dX4_netAmongTowns_110 : decode cX4_netAmongTowns 110 = .ok (.dup2, 1) := by decide +kernel
theorem dX4_netAmongTowns_111 : decode cX4_netAmongTowns 111 = .ok (.laload, 1) := by decide +kernel
theorem dX4_netAmongTowns_112 : decode cX4_netAmongTowns 112 = .ok (.lload 6, 2) := by decide +kernel
theorem dX4_netAmongTowns_114 : decode cX4_netAmongTowns 114 = .ok (.lsub, 1) := by decide +kernel
theorem dX4_netAmongTowns_115 : decode cX4_netAmongTowns 115 = .ok (.lastore, 1) := by decide +kernel
theorem dX4_netAmongTowns_116 : decode cX4_netAmongTowns 116 = .ok (.aload_n 0, 1) := by decide +kernel
theorem dX4_netAmongTowns_117 : decode cX4_netAmongTowns 117 = .ok (.iload_n 3, 1) := by decide +kernel
theorem dX4_netAmongTowns_118 : decode cX4_netAmongTowns 118 = .ok (.iload 4, 2) := by decide +kernel
theorem dX4_netAmongTowns_120 : decode cX4_netAmongTowns 120 = .ok (.lload 6, 2) := by decide +kernel
theorem dX4_netAmongTowns_122 : decode cX4_netAmongTowns 122 = .ok (.iload_n 2, 1) := by decide +kernel
theorem dX4_netAmongTowns_123 : decode cX4_netAmongTowns 123 = .ok (.invokevirtual 77, 3) := by decide +kernel
theorem dX4_netAmongTowns_126 : decode cX4_netAmongTowns 126 = .ok (.iinc 4 1, 3) := by decide +kernel
theorem dX4_netAmongTowns_129 : decode cX4_netAmongTowns 129 = .ok (.goto (-118), 3) := by decide +kernel
theorem dX4_netAmongTowns_132 : decode cX4_netAmongTowns 132 = .ok (.iinc 3 1, 3) := by decide +kernel
theorem dX4_netAmongTowns_135 : decode cX4_netAmongTowns 135 = .ok (.goto (-133), 3) := by decide +kernel
theorem dX4_netAmongTowns_138 : decode cX4_netAmongTowns 138 = .ok (.return_, 1) := by decide +kernel
set_option maxRecDepth 20000 in
theorem ggX4_netWithHouse_X4_addGift : GoodIn wsX4_netWithHouse wsX4_addGift := goodIn_sub (show ∀ w ∈ wsX4_addGift, w ∈ wsX4_netWithHouse from (List.forall_mem_cons.mpr ⟨List.mem_cons_of_mem _ (List.mem_append_left _ (List.mem_append_left _ (List.mem_of_getElem? (i := 6) rfl))), (gw_a (List.forall_mem_cons.mpr ⟨List.mem_cons_of_mem _ (List.mem_append_left _ (List.mem_append_left _ (List.mem_of_getElem? (i := 7) rfl))), (List.forall_mem_cons.mpr ⟨List.mem_cons_of_mem _ (List.mem_append_left _ (List.mem_append_left _ (List.mem_of_getElem? (i := 8) rfl))), (List.forall_mem_cons.mpr ⟨List.mem_cons_of_mem _ (List.mem_append_left _ (List.mem_append_left _ (List.mem_of_getElem? (i := 9) rfl))), (List.forall_mem_cons.mpr ⟨List.mem_cons_of_mem _ (List.mem_append_left _ (List.mem_append_left _ (List.mem_of_getElem? (i := 10) rfl))), (List.forall_mem_cons.mpr ⟨List.mem_cons_of_mem _ (List.mem_append_left _ (List.mem_append_left _ (List.mem_of_getElem? (i := 11) rfl))), (fun _ h => absurd h List.not_mem_nil)⟩)⟩)⟩)⟩)⟩) (fun _ h => List.mem_cons_of_mem _ (List.mem_append_right _ (h))))⟩)) (by decide +kernel)
set_option maxRecDepth 20000 in
theorem gX4_netWithHouse_X4_addGift : GoodIn wsX4_netWithHouse (wsV RX4 77 RX4 yX4_addGift wsX4_addGift) := goodIn_app (goodIn_sub (List.forall_mem_cons.mpr ⟨List.mem_cons_of_mem _ (List.mem_append_left _ (List.mem_append_left _ (List.mem_of_getElem? (i := 2) rfl))), (List.forall_mem_cons.mpr ⟨List.mem_cons_of_mem _ (List.mem_append_left _ (List.mem_append_left _ (List.mem_of_getElem? (i := 3) rfl))), (List.forall_mem_cons.mpr ⟨List.mem_cons_of_mem _ (List.mem_append_left _ (List.mem_append_left _ (List.mem_of_getElem? (i := 4) rfl))), (List.forall_mem_cons.mpr ⟨List.mem_cons_of_mem _ (List.mem_append_left _ (List.mem_append_left _ (List.mem_of_getElem? (i := 5) rfl))), (fun _ h => absurd h List.not_mem_nil)⟩)⟩)⟩)⟩) (by decide +kernel)) ggX4_netWithHouse_X4_addGift
theorem dX4_netWithHouse_0 : decode cX4_netWithHouse 0 = .ok (.iconst 0, 1) := by decide +kernel
theorem dX4_netWithHouse_1 : decode cX4_netWithHouse 1 = .ok (.istore_n 3, 1) := by decide +kernel
theorem dX4_netWithHouse_2 : decode cX4_netWithHouse 2 = .ok (.iload_n 3, 1) := by decide +kernel
theorem dX4_netWithHouse_3 : decode cX4_netWithHouse 3 = .ok (.bipush 12, 2) := by decide +kernel
theorem dX4_netWithHouse_5 : decode cX4_netWithHouse 5 = .ok (.if_icmp .ge 80, 3) := by decide +kernel
theorem dX4_netWithHouse_8 : decode cX4_netWithHouse 8 = .ok (.aload_n 1, 1) := by decide +kernel
theorem dX4_netWithHouse_9 : decode cX4_netWithHouse 9 = .ok (.iload_n 3, 1) := by decide +kernel
theorem dX4_netWithHouse_10 : decode cX4_netWithHouse 10 = .ok (.aaload, 1) := by decide +kernel
theorem dX4_netWithHouse_11 : decode cX4_netWithHouse 11 = .ok (.getfield 66, 3) := by decide +kernel
theorem dX4_netWithHouse_14 : decode cX4_netWithHouse 14 = .ok (.iload_n 2, 1) := by decide +kernel
theorem dX4_netWithHouse_15 : decode cX4_netWithHouse 15 = .ok (.if_icmp .ne 28, 3) := by decide +kernel
theorem dX4_netWithHouse_18 : decode cX4_netWithHouse 18 = .ok (.aload_n 0, 1) := by decide +kernel
theorem dX4_netWithHouse_19 : decode cX4_netWithHouse 19 = .ok (.getfield 22, 3) := by decide +kernel
theorem dX4_netWithHouse_22 : decode cX4_netWithHouse 22 = .ok (.iload_n 3, 1) := by decide +kernel
theorem dX4_netWithHouse_23 : decode cX4_netWithHouse 23 = .ok (.laload, 1) := by decide +kernel
theorem dX4_netWithHouse_24 : decode cX4_netWithHouse 24 = .ok (.lconst 0, 1) := by decide +kernel
theorem dX4_netWithHouse_25 : decode cX4_netWithHouse 25 = .ok (.lcmp, 1) := by decide +kernel
theorem dX4_netWithHouse_26 : decode cX4_netWithHouse 26 = .ok (.ifCond .le 17, 3) := by decide +kernel
theorem dX4_netWithHouse_29 : decode cX4_netWithHouse 29 = .ok (.aload_n 0, 1) := by decide +kernel
theorem dX4_netWithHouse_30 : decode cX4_netWithHouse 30 = .ok (.bipush 12, 2) := by decide +kernel
theorem dX4_netWithHouse_32 : decode cX4_netWithHouse 32 = .ok (.iload_n 3, 1) := by decide +kernel
theorem dX4_netWithHouse_33 : decode cX4_netWithHouse 33 = .ok (.aload_n 0, 1) := by decide +kernel
theorem dX4_netWithHouse_34 : decode cX4_netWithHouse 34 = .ok (.getfield 22, 3) := by decide +kernel
theorem dX4_netWithHouse_37 : decode cX4_netWithHouse 37 = .ok (.iload_n 3, 1) := by decide +kernel
theorem dX4_netWithHouse_38 : decode cX4_netWithHouse 38 = .ok (.laload, 1) := by decide +kernel
theorem dX4_netWithHouse_39 : decode cX4_netWithHouse 39 = .ok (.iload_n 2, 1) := by decide +kernel
theorem dX4_netWithHouse_40 : decode cX4_netWithHouse 40 = .ok (.invokevirtual 77, 3) := by decide +kernel
theorem dX4_netWithHouse_43 : decode cX4_netWithHouse 43 = .ok (.aload_n 1, 1) := by decide +kernel
theorem dX4_netWithHouse_44 : decode cX4_netWithHouse 44 = .ok (.iload_n 3, 1) := by decide +kernel
theorem dX4_netWithHouse_45 : decode cX4_netWithHouse 45 = .ok (.aaload, 1) := by decide +kernel
theorem dX4_netWithHouse_46 : decode cX4_netWithHouse 46 = .ok (.getfield 66, 3) := by decide +kernel
theorem dX4_netWithHouse_49 : decode cX4_netWithHouse 49 = .ok (.iload_n 2, 1) := by decide +kernel
theorem dX4_netWithHouse_50 : decode cX4_netWithHouse 50 = .ok (.if_icmp .ne 29, 3) := by decide +kernel
theorem dX4_netWithHouse_53 : decode cX4_netWithHouse 53 = .ok (.aload_n 0, 1) := by decide +kernel
theorem dX4_netWithHouse_54 : decode cX4_netWithHouse 54 = .ok (.getfield 22, 3) := by decide +kernel
theorem dX4_netWithHouse_57 : decode cX4_netWithHouse 57 = .ok (.iload_n 3, 1) := by decide +kernel
theorem dX4_netWithHouse_58 : decode cX4_netWithHouse 58 = .ok (.laload, 1) := by decide +kernel
theorem dX4_netWithHouse_59 : decode cX4_netWithHouse 59 = .ok (.lconst 0, 1) := by decide +kernel
theorem dX4_netWithHouse_60 : decode cX4_netWithHouse 60 = .ok (.lcmp, 1) := by decide +kernel
theorem dX4_netWithHouse_61 : decode cX4_netWithHouse 61 = .ok (.ifCond .ge 18, 3) := by decide +kernel
theorem dX4_netWithHouse_64 : decode cX4_netWithHouse 64 = .ok (.aload_n 0, 1) := by decide +kernel
theorem dX4_netWithHouse_65 : decode cX4_netWithHouse 65 = .ok (.iload_n 3, 1) := by decide +kernel
theorem dX4_netWithHouse_66 : decode cX4_netWithHouse 66 = .ok (.bipush 12, 2) := by decide +kernel
theorem dX4_netWithHouse_68 : decode cX4_netWithHouse 68 = .ok (.aload_n 0, 1) := by decide +kernel
theorem dX4_netWithHouse_69 : decode cX4_netWithHouse 69 = .ok (.getfield 22, 3) := by decide +kernel
theorem dX4_netWithHouse_72 : decode cX4_netWithHouse 72 = .ok (.iload_n 3, 1) := by decide +kernel
theorem dX4_netWithHouse_73 : decode cX4_netWithHouse 73 = .ok (.laload, 1) := by decide +kernel
theorem dX4_netWithHouse_74 : decode cX4_netWithHouse 74 = .ok (.lneg, 1) := by decide +kernel
theorem dX4_netWithHouse_75 : decode cX4_netWithHouse 75 = .ok (.iload_n 2, 1) := by decide +kernel
theorem dX4_netWithHouse_76 : decode cX4_netWithHouse 76 = .ok (.invokevirtual 77, 3) := by decide +kernel
theorem dX4_netWithHouse_79 : decode cX4_netWithHouse 79 = .ok (.iinc 3 1, 3) := by decide +kernel
theorem dX4_netWithHouse_82 : decode cX4_netWithHouse 82 = .ok (.goto (-80), 3) := by decide +kernel
theorem dX4_netWithHouse_85 : decode cX4_netWithHouse 85 = .ok (.return_, 1) := by decide +kernel
theorem dX4_addGift_0 : decode cX4_addGift 0 = .ok (.aload_n 0, 1) := by decide +kernel
theorem dX4_addGift_1 : decode cX4_addGift 1 = .ok (.getfield 37, 3) := by decide +kernel
theorem dX4_addGift_4 : decode cX4_addGift 4 = .ok (.bipush 12, 2) := by decide +kernel
theorem dX4_addGift_6 : decode cX4_addGift 6 = .ok (.if_icmp .lt 4, 3) := by decide +kernel
theorem dX4_addGift_9 : decode cX4_addGift 9 = .ok (.return_, 1) := by decide +kernel
theorem dX4_addGift_10 : decode cX4_addGift 10 = .ok (.aload_n 0, 1) := by decide +kernel
theorem dX4_addGift_11 : decode cX4_addGift 11 = .ok (.getfield 25, 3) := by decide +kernel
theorem dX4_addGift_14 : decode cX4_addGift 14 = .ok (.aload_n 0, 1) := by decide +kernel
theorem dX4_addGift_15 : decode cX4_addGift 15 = .ok (.getfield 37, 3) := by decide +kernel
theorem dX4_addGift_18 : decode cX4_addGift 18 = .ok (.iload_n 1, 1) := by decide +kernel
theorem dX4_addGift_19 : decode cX4_addGift 19 = .ok (.iastore, 1) := by decide +kernel
theorem dX4_addGift_20 : decode cX4_addGift 20 = .ok (.aload_n 0, 1) := by decide +kernel
theorem dX4_addGift_21 : decode cX4_addGift 21 = .ok (.getfield 28, 3) := by decide +kernel
theorem dX4_addGift_24 : decode cX4_addGift 24 = .ok (.aload_n 0, 1) := by decide +kernel
theorem dX4_addGift_25 : decode cX4_addGift 25 = .ok (.getfield 37, 3) := by decide +kernel
theorem dX4_addGift_28 : decode cX4_addGift 28 = .ok (.iload_n 2, 1) := by decide +kernel
theorem dX4_addGift_29 : decode cX4_addGift 29 = .ok (.iastore, 1) := by decide +kernel
theorem dX4_addGift_30 : decode cX4_addGift 30 = .ok (.aload_n 0, 1) := by decide +kernel
theorem dX4_addGift_31 : decode cX4_addGift 31 = .ok (.getfield 31, 3) := by decide +kernel
theorem dX4_addGift_34 : decode cX4_addGift 34 = .ok (.aload_n 0, 1) := by decide +kernel
theorem dX4_addGift_35 : decode cX4_addGift 35 = .ok (.getfield 37, 3) := by decide +kernel
theorem dX4_addGift_38 : decode cX4_addGift 38 = .ok (.lload_n 3, 1) := by decide +kernel
theorem dX4_addGift_39 : decode cX4_addGift 39 = .ok (.lastore, 1) := by decide +kernel
theorem dX4_addGift_40 : decode cX4_addGift 40 = .ok (.aload_n 0, 1) := by decide +kernel
theorem dX4_addGift_41 : decode cX4_addGift 41 = .ok (.getfield 34, 3) := by decide +kernel
theorem dX4_addGift_44 : decode cX4_addGift 44 = .ok (.aload_n 0, 1) := by decide +kernel
theorem dX4_addGift_45 : decode cX4_addGift 45 = .ok (.getfield 37, 3) := by decide +kernel
theorem dX4_addGift_48 : decode cX4_addGift 48 = .ok (.iload 5, 2) := by decide +kernel
theorem dX4_addGift_50 : decode cX4_addGift 50 = .ok (.iastore, 1) := by decide +kernel
theorem dX4_addGift_51 : decode cX4_addGift 51 = .ok (.aload_n 0, 1) := by decide +kernel
theorem dX4_addGift_52 : decode cX4_addGift 52 = .ok (.dup, 1) := by decide +kernel
theorem dX4_addGift_53 : decode cX4_addGift 53 = .ok (.getfield 37, 3) := by decide +kernel
theorem dX4_addGift_56 : decode cX4_addGift 56 = .ok (.iconst 1, 1) := by decide +kernel
theorem dX4_addGift_57 : decode cX4_addGift 57 = .ok (.iadd, 1) := by decide +kernel
theorem dX4_addGift_58 : decode cX4_addGift 58 = .ok (.putfield 37, 3) := by decide +kernel
theorem dX4_addGift_61 : decode cX4_addGift 61 = .ok (.return_, 1) := by decide +kernel
theorem dX5_init_0 : decode cX5_init 0 = .ok (.aload_n 0, 1) := by decide +kernel
theorem dX5_init_1 : decode cX5_init 1 = .ok (.invokespecial 3, 3) := by decide +kernel
theorem dX5_init_4 : decode cX5_init 4 = .ok (.aload_n 0, 1) := by decide +kernel
theorem dX5_init_5 : decode cX5_init 5 = .ok (.iconst (-1), 1) := by decide +kernel
theorem dX5_init_6 : decode cX5_init 6 = .ok (.putfield 9, 3) := by decide +kernel
theorem dX5_init_9 : decode cX5_init 9 = .ok (.aload_n 0, 1) := by decide +kernel
theorem dX5_init_10 : decode cX5_init 10 = .ok (.iconst 1, 1) := by decide +kernel
theorem dX5_init_11 : decode cX5_init 11 = .ok (.putfield 15, 3) := by decide +kernel
theorem dX5_init_14 : decode cX5_init 14 = .ok (.aload_n 0, 1) := by decide +kernel
theorem dX5_init_15 : decode cX5_init 15 = .ok (.iconst 0, 1) := by decide +kernel
theorem dX5_init_16 : decode cX5_init 16 = .ok (.putfield 18, 3) := by decide +kernel
theorem dX5_init_19 : decode cX5_init 19 = .ok (.aload_n 0, 1) := by decide +kernel
theorem dX5_init_20 : decode cX5_init 20 = .ok (.iconst (-1), 1) := by decide +kernel
theorem dX5_init_21 : decode cX5_init 21 = .ok (.putfield 21, 3) := by decide +kernel
theorem dX5_init_24 : decode cX5_init 24 = .ok (.aload_n 0, 1) := by decide +kernel
theorem dX5_init_25 : decode cX5_init 25 = .ok (.iload_n 1, 1) := by decide +kernel
theorem dX5_init_26 : decode cX5_init 26 = .ok (.putfield 24, 3) := by decide +kernel
theorem dX5_init_29 : decode cX5_init 29 = .ok (.aload_n 0, 1) := by decide +kernel
theorem dX5_init_30 : decode cX5_init 30 = .ok (.iload_n 2, 1) := by decide +kernel
theorem dX5_init_31 : decode cX5_init 31 = .ok (.putfield 27, 3) := by decide +kernel
theorem dX5_init_34 : decode cX5_init 34 = .ok (.aload_n 0, 1) := by decide +kernel
theorem dX5_init_35 : decode cX5_init 35 = .ok (.iload_n 3, 1) := by decide +kernel
theorem dX5_init_36 : decode cX5_init 36 = .ok (.putfield 30, 3) := by decide +kernel
theorem dX5_init_39 : decode cX5_init 39 = .ok (.aload_n 0, 1) := by decide +kernel
theorem dX5_init_40 : decode cX5_init 40 = .ok (.iload 4, 2) := by decide +kernel
theorem dX5_init_42 : decode cX5_init 42 = .ok (.putfield 33, 3) := by decide +kernel
theorem dX5_init_45 : decode cX5_init 45 = .ok (.aload_n 0, 1) := by decide +kernel
theorem dX5_init_46 : decode cX5_init 46 = .ok (.iload 5, 2) := by decide +kernel
theorem dX5_init_48 : decode cX5_init 48 = .ok (.putfield 36, 3) := by decide +kernel
theorem dX5_init_51 : decode cX5_init 51 = .ok (.aload_n 0, 1) := by decide +kernel
theorem dX5_init_52 : decode cX5_init 52 = .ok (.iload 6, 2) := by decide +kernel
theorem dX5_init_54 : decode cX5_init 54 = .ok (.putfield 39, 3) := by decide +kernel
theorem dX5_init_57 : decode cX5_init 57 = .ok (.return_, 1) := by decide +kernel
theorem dX6_init_0 : decode cX6_init 0 = .ok (.aload_n 0, 1) := by decide +kernel
theorem dX6_init_1 : decode cX6_init 1 = .ok (.invokespecial 3, 3) := by decide +kernel
theorem dX6_init_4 : decode cX6_init 4 = .ok (.aload_n 0, 1) := by decide +kernel
theorem dX6_init_5 : decode cX6_init 5 = .ok (.bipush 12, 2) := by decide +kernel
theorem dX6_init_7 : decode cX6_init 7 = .ok (.newarray .int, 2) := by decide +kernel
theorem dX6_init_9 : decode cX6_init 9 = .ok (.putfield 9, 3) := by decide +kernel
theorem dX6_init_12 : decode cX6_init 12 = .ok (.aload_n 0, 1) := by decide +kernel
theorem dX6_init_13 : decode cX6_init 13 = .ok (.iload_n 1, 1) := by decide +kernel
theorem dX6_init_14 : decode cX6_init 14 = .ok (.putfield 15, 3) := by decide +kernel
theorem dX6_init_17 : decode cX6_init 17 = .ok (.aload_n 0, 1) := by decide +kernel
theorem dX6_init_18 : decode cX6_init 18 = .ok (.iload_n 2, 1) := by decide +kernel
theorem dX6_init_19 : decode cX6_init 19 = .ok (.putfield 19, 3) := by decide +kernel
theorem dX6_init_22 : decode cX6_init 22 = .ok (.iconst 0, 1) := by decide +kernel
theorem dX6_init_23 : decode cX6_init 23 = .ok (.istore 5, 2) := by decide +kernel
theorem dX6_init_25 : decode cX6_init 25 = .ok (.iload 5, 2) := by decide +kernel
theorem dX6_init_27 : decode cX6_init 27 = .ok (.bipush 12, 2) := by decide +kernel
theorem dX6_init_29 : decode cX6_init 29 = .ok (.if_icmp .ge 36, 3) := by decide +kernel
theorem dX6_init_32 : decode cX6_init 32 = .ok (.aload_n 0, 1) := by decide +kernel
theorem dX6_init_33 : decode cX6_init 33 = .ok (.getfield 9, 3) := by decide +kernel
theorem dX6_init_36 : decode cX6_init 36 = .ok (.iload 5, 2) := by decide +kernel
theorem dX6_init_38 : decode cX6_init 38 = .ok (.aload_n 3, 1) := by decide +kernel
theorem dX6_init_39 : decode cX6_init 39 = .ok (.iload 5, 2) := by decide +kernel
theorem dX6_init_41 : decode cX6_init 41 = .ok (.iaload, 1) := by decide +kernel
theorem dX6_init_42 : decode cX6_init 42 = .ok (.ldc 22, 2) := by decide +kernel
theorem dX6_init_44 : decode cX6_init 44 = .ok (.if_icmp .ne 7, 3) := by decide +kernel
theorem dX6_init_47 : decode cX6_init 47 = .ok (.iconst (-1), 1) := by decide +kernel
theorem dX6_init_48 : decode cX6_init 48 = .ok (.goto 10, 3) := by decide +kernel
theorem dX6_init_51 : decode cX6_init 51 = .ok (.iload 4, 2) := by decide +kernel
theorem dX6_init_53 : decode cX6_init 53 = .ok (.aload_n 3, 1) := by decide +kernel
theorem dX6_init_54 : decode cX6_init 54 = .ok (.iload 5, 2) := by decide +kernel
theorem dX6_init_56 : decode cX6_init 56 = .ok (.iaload, 1) := by decide +kernel
theorem dX6_init_57 : decode cX6_init 57 = .ok (.iadd, 1) := by decide +kernel
theorem dX6_init_58 : decode cX6_init 58 = .ok (.iastore, 1) := by decide +kernel
theorem dX6_init_59 : decode cX6_init 59 = .ok (.iinc 5 1, 3) := by decide +kernel
theorem dX6_init_62 : decode cX6_init 62 = .ok (.goto (-37), 3) := by decide +kernel
theorem dX6_init_65 : decode cX6_init 65 = .ok (.return_, 1) := by decide +kernel
set_option maxRecDepth 20000 in
theorem ggX6_holdsAgainst_X10_hasCome : GoodIn wsX6_holdsAgainst wsX10_hasCome := goodIn_sub (show ∀ w ∈ wsX10_hasCome, w ∈ wsX6_holdsAgainst from (List.forall_mem_cons.mpr ⟨List.mem_cons_of_mem _ (List.mem_append_left _ (List.mem_append_left _ (List.mem_of_getElem? (i := 9) rfl))), (fun _ h => absurd h List.not_mem_nil)⟩)) (by decide +kernel)
set_option maxRecDepth 20000 in
theorem gX6_holdsAgainst_X10_hasCome_n33 : GoodIn wsX6_holdsAgainst (wsX10_hasCome) := ggX6_holdsAgainst_X10_hasCome
theorem dX6_holdsAgainst_0 : decode cX6_holdsAgainst 0 = .ok (.aload_n 0, 1) := by decide +kernel
theorem dX6_holdsAgainst_1 : decode cX6_holdsAgainst 1 = .ok (.getfield 15, 3) := by decide +kernel
theorem dX6_holdsAgainst_4 : decode cX6_holdsAgainst 4 = .ok (.aload_n 1, 1) := by decide +kernel
theorem dX6_holdsAgainst_5 : decode cX6_holdsAgainst 5 = .ok (.getfield 23, 3) := by decide +kernel
theorem dX6_holdsAgainst_8 : decode cX6_holdsAgainst 8 = .ok (.if_icmp .ne 45, 3) := by decide +kernel
theorem dX6_holdsAgainst_11 : decode cX6_holdsAgainst 11 = .ok (.aload_n 0, 1) := by decide +kernel
theorem dX6_holdsAgainst_12 : decode cX6_holdsAgainst 12 = .ok (.getfield 19, 3) := by decide +kernel
theorem dX6_holdsAgainst_15 : decode cX6_holdsAgainst 15 = .ok (.iconst (-1), 1) := by decide +kernel
theorem dX6_holdsAgainst_16 : decode cX6_holdsAgainst 16 = .ok (.if_icmp .eq 14, 3) := by decide +kernel
theorem dX6_holdsAgainst_19 : decode cX6_holdsAgainst 19 = .ok (.aload_n 0, 1) := by decide +kernel
theorem dX6_holdsAgainst_20 : decode cX6_holdsAgainst 20 = .ok (.getfield 19, 3) := by decide +kernel
theorem dX6_holdsAgainst_23 : decode cX6_holdsAgainst 23 = .ok (.aload_n 1, 1) := by decide +kernel
theorem dX6_holdsAgainst_24 : decode cX6_holdsAgainst 24 = .ok (.getfield 26, 3) := by decide +kernel
theorem dX6_holdsAgainst_27 : decode cX6_holdsAgainst 27 = .ok (.if_icmp .ne 26, 3) := by decide +kernel
theorem dX6_holdsAgainst_30 : decode cX6_holdsAgainst 30 = .ok (.aload_n 0, 1) := by decide +kernel
theorem dX6_holdsAgainst_31 : decode cX6_holdsAgainst 31 = .ok (.getfield 9, 3) := by decide +kernel
theorem dX6_holdsAgainst_34 : decode cX6_holdsAgainst 34 = .ok (.aload_n 1, 1) := by decide +kernel
theorem dX6_holdsAgainst_35 : decode cX6_holdsAgainst 35 = .ok (.getfield 27, 3) := by decide +kernel
theorem dX6_holdsAgainst_38 : decode cX6_holdsAgainst 38 = .ok (.iaload, 1) := by decide +kernel
theorem dX6_holdsAgainst_39 : decode cX6_holdsAgainst 39 = .ok (.aload_n 1, 1) := by decide +kernel
theorem dX6_holdsAgainst_40 : decode cX6_holdsAgainst 40 = .ok (.getfield 30, 3) := by decide +kernel
theorem dX6_holdsAgainst_43 : decode cX6_holdsAgainst 43 = .ok (.invokestatic 33, 3) := by decide +kernel
theorem dX6_holdsAgainst_46 : decode cX6_holdsAgainst 46 = .ok (.ifCond .eq 7, 3) := by decide +kernel
theorem dX6_holdsAgainst_49 : decode cX6_holdsAgainst 49 = .ok (.iconst 1, 1) := by decide +kernel
theorem dX6_holdsAgainst_50 : decode cX6_holdsAgainst 50 = .ok (.goto 4, 3) := by decide +kernel
theorem dX6_holdsAgainst_53 : decode cX6_holdsAgainst 53 = .ok (.iconst 0, 1) := by decide +kernel
theorem dX6_holdsAgainst_54 : decode cX6_holdsAgainst 54 = .ok (.ireturn, 1) := by decide +kernel
theorem dX7_init_0 : decode cX7_init 0 = .ok (.aload_n 0, 1) := by decide +kernel
theorem dX7_init_1 : decode cX7_init 1 = .ok (.invokespecial 3, 3) := by decide +kernel
theorem dX7_init_4 : decode cX7_init 4 = .ok (.aload_n 0, 1) := by decide +kernel
theorem dX7_init_5 : decode cX7_init 5 = .ok (.sipush 300, 3) := by decide +kernel
theorem dX7_init_8 : decode cX7_init 8 = .ok (.newarray .byte, 2) := by decide +kernel
theorem dX7_init_10 : decode cX7_init 10 = .ok (.putfield 9, 3) := by decide +kernel
theorem dX7_init_13 : decode cX7_init 13 = .ok (.aload_n 0, 1) := by decide +kernel
theorem dX7_init_14 : decode cX7_init 14 = .ok (.iconst 0, 1) := by decide +kernel
theorem dX7_init_15 : decode cX7_init 15 = .ok (.putfield 15, 3) := by decide +kernel
theorem dX7_init_18 : decode cX7_init 18 = .ok (.aload_n 0, 1) := by decide +kernel
theorem dX7_init_19 : decode cX7_init 19 = .ok (.iconst 0, 1) := by decide +kernel
theorem dX7_init_20 : decode cX7_init 20 = .ok (.putfield 19, 3) := by decide +kernel
theorem dX7_init_23 : decode cX7_init 23 = .ok (.return_, 1) := by decide +kernel
theorem dX7_hasRoom_0 : decode cX7_hasRoom 0 = .ok (.aload_n 0, 1) := by decide +kernel
theorem dX7_hasRoom_1 : decode cX7_hasRoom 1 = .ok (.getfield 15, 3) := by decide +kernel
theorem dX7_hasRoom_4 : decode cX7_hasRoom 4 = .ok (.iload_n 1, 1) := by decide +kernel
theorem dX7_hasRoom_5 : decode cX7_hasRoom 5 = .ok (.iadd, 1) := by decide +kernel
theorem dX7_hasRoom_6 : decode cX7_hasRoom 6 = .ok (.sipush 300, 3) := by decide +kernel
theorem dX7_hasRoom_9 : decode cX7_hasRoom 9 = .ok (.if_icmp .gt 7, 3) := by decide +kernel
theorem dX7_hasRoom_12 : decode cX7_hasRoom 12 = .ok (.iconst 1, 1) := by decide +kernel
theorem dX7_hasRoom_13 : decode cX7_hasRoom 13 = .ok (.goto 4, 3) := by decide +kernel
theorem dX7_hasRoom_16 : decode cX7_hasRoom 16 = .ok (.iconst 0, 1) := by decide +kernel
theorem dX7_hasRoom_17 : decode cX7_hasRoom 17 = .ok (.ireturn, 1) := by decide +kernel
theorem dX7_append_0 : decode cX7_append 0 = .ok (.bipush 24, 2) := by decide +kernel
theorem dX7_append_2 : decode cX7_append 2 = .ok (.istore_n 2, 1) := by decide +kernel
theorem dX7_append_3 : decode cX7_append 3 = .ok (.iload_n 2, 1) := by decide +kernel
theorem dX7_append_4 : decode cX7_append 4 = .ok (.ifCond .lt 42, 3) := by decide +kernel
theorem dX7_append_7 : decode cX7_append 7 = .ok (.aload_n 0, 1) := by decide +kernel
theorem dX7_append_8 : decode cX7_append 8 = .ok (.getfield 15, 3) := by decide +kernel
theorem dX7_append_11 : decode cX7_append 11 = .ok (.sipush 300, 3) := by decide +kernel
theorem dX7_append_14 : decode cX7_append 14 = .ok (.if_icmp .ge 32, 3) := by decide +kernel
theorem dX7_append_17 : decode cX7_append 17 = .ok (.aload_n 0, 1) := by decide +kernel
theorem dX7_append_18 : decode cX7_append 18 = .ok (.getfield 9, 3) := by decide +kernel
theorem dX7_append_21 : decode cX7_append 21 = .ok (.aload_n 0, 1) := by decide +kernel
theorem dX7_append_22 : decode cX7_append 22 = .ok (.getfield 15, 3) := by decide +kernel
theorem dX7_append_25 : decode cX7_append 25 = .ok (.iload_n 1, 1) := by decide +kernel
theorem dX7_append_26 : decode cX7_append 26 = .ok (.iload_n 2, 1) := by decide +kernel
theorem dX7_append_27 : decode cX7_append 27 = .ok (.ishr, 1) := by decide +kernel
theorem dX7_append_28 : decode cX7_append 28 = .ok (.i2b, 1) := by decide +kernel
theorem dX7_append_29 : decode cX7_append 29 = .ok (.bastore, 1) := by decide +kernel
theorem dX7_append_30 : decode cX7_append 30 = .ok (.aload_n 0, 1) := by decide +kernel
theorem dX7_append_31 : decode cX7_append 31 = .ok (.dup, 1) := by decide +kernel
theorem dX7_append_32 : decode cX7_append 32 = .ok (.getfield 15, 3) := by decide +kernel
theorem dX7_append_35 : decode cX7_append 35 = .ok (.iconst 1, 1) := by decide +kernel
theorem dX7_append_36 : decode cX7_append 36 = .ok (.iadd, 1) := by decide +kernel
theorem dX7_append_37 : decode cX7_append 37 = .ok (.putfield 15, 3) := by decide +kernel
theorem dX7_append_40 : decode cX7_append 40 = .ok (.iinc 2 (-8), 3) := by decide +kernel
theorem dX7_append_43 : decode cX7_append 43 = .ok (.goto (-40), 3) := by decide +kernel
theorem dX7_append_46 : decode cX7_append 46 = .ok (.return_, 1) := by decide +kernel
theorem dX7_rewind_0 : decode cX7_rewind 0 = .ok (.aload_n 0, 1) := by decide +kernel
theorem dX7_rewind_1 : decode cX7_rewind 1 = .ok (.iconst 0, 1) := by decide +kernel
theorem dX7_rewind_2 : decode cX7_rewind 2 = .ok (.putfield 19, 3) := by decide +kernel
theorem dX7_rewind_5 : decode cX7_rewind 5 = .ok (.return_, 1) := by decide +kernel
set_option maxRecDepth 20000 in
theorem ggX7_isOver_X7_nextPlace : GoodIn wsX7_isOver wsX7_nextPlace := goodIn_sub (show ∀ w ∈ wsX7_nextPlace, w ∈ wsX7_isOver from (List.forall_mem_cons.mpr ⟨List.mem_cons_of_mem _ (List.mem_append_left _ (List.mem_of_getElem? (i := 5) rfl)), (gw_a (List.forall_mem_cons.mpr ⟨List.mem_cons_of_mem _ (List.mem_append_left _ (List.mem_of_getElem? (i := 6) rfl)), (List.forall_mem_cons.mpr ⟨List.mem_cons_of_mem _ (List.mem_append_left _ (List.mem_of_getElem? (i := 0) rfl)), (List.forall_mem_cons.mpr ⟨List.mem_cons_of_mem _ (List.mem_append_left _ (List.mem_of_getElem? (i := 7) rfl)), (fun _ h => absurd h List.not_mem_nil)⟩)⟩)⟩) (fun _ h => List.mem_cons_of_mem _ (List.mem_append_right _ (h))))⟩)) (by decide +kernel)
set_option maxRecDepth 20000 in
theorem gX7_isOver_X7_nextPlace : GoodIn wsX7_isOver (wsV RX7 22 RX7 yX7_nextPlace wsX7_nextPlace) := goodIn_app (goodIn_sub (List.forall_mem_cons.mpr ⟨List.mem_cons_of_mem _ (List.mem_append_left _ (List.mem_of_getElem? (i := 1) rfl)), (List.forall_mem_cons.mpr ⟨List.mem_cons_of_mem _ (List.mem_append_left _ (List.mem_of_getElem? (i := 2) rfl)), (List.forall_mem_cons.mpr ⟨List.mem_cons_of_mem _ (List.mem_append_left _ (List.mem_of_getElem? (i := 3) rfl)), (List.forall_mem_cons.mpr ⟨List.mem_cons_of_mem _ (List.mem_append_left _ (List.mem_of_getElem? (i := 4) rfl)), (fun _ h => absurd h List.not_mem_nil)⟩)⟩)⟩)⟩) (by decide +kernel)) ggX7_isOver_X7_nextPlace
theorem dX7_isOver_0 : decode cX7_isOver 0 = .ok (.aload_n 0, 1) := by decide +kernel
theorem dX7_isOver_1 : decode cX7_isOver 1 = .ok (.invokevirtual 22, 3) := by decide +kernel
theorem dX7_isOver_4 : decode cX7_isOver 4 = .ok (.aload_n 0, 1) := by decide +kernel
theorem dX7_isOver_5 : decode cX7_isOver 5 = .ok (.getfield 15, 3) := by decide +kernel
theorem dX7_isOver_8 : decode cX7_isOver 8 = .ok (.if_icmp .lt 7, 3) := by decide +kernel
theorem dX7_isOver_11 : decode cX7_isOver 11 = .ok (.iconst 1, 1) := by decide +kernel
theorem dX7_isOver_12 : decode cX7_isOver 12 = .ok (.goto 4, 3) := by decide +kernel
theorem dX7_isOver_15 : decode cX7_isOver 15 = .ok (.iconst 0, 1) := by decide +kernel
theorem dX7_isOver_16 : decode cX7_isOver 16 = .ok (.ireturn, 1) := by decide +kernel
theorem dX7_nextPlace_0 : decode cX7_nextPlace 0 = .ok (.aload_n 0, 1) := by decide +kernel
theorem dX7_nextPlace_1 : decode cX7_nextPlace 1 = .ok (.getfield 19, 3) := by decide +kernel
theorem dX7_nextPlace_4 : decode cX7_nextPlace 4 = .ok (.aload_n 0, 1) := by decide +kernel
theorem dX7_nextPlace_5 : decode cX7_nextPlace 5 = .ok (.getfield 15, 3) := by decide +kernel
theorem dX7_nextPlace_8 : decode cX7_nextPlace 8 = .ok (.if_icmp .ge 30, 3) := by decide +kernel
theorem dX7_nextPlace_11 : decode cX7_nextPlace 11 = .ok (.aload_n 0, 1) := by decide +kernel
theorem dX7_nextPlace_12 : decode cX7_nextPlace 12 = .ok (.getfield 9, 3) := by decide +kernel
theorem dX7_nextPlace_15 : decode cX7_nextPlace 15 = .ok (.aload_n 0, 1) := by decide +kernel
theorem dX7_nextPlace_16 : decode cX7_nextPlace 16 = .ok (.getfield 19, 3) := by decide +kernel
theorem dX7_nextPlace_19 : decode cX7_nextPlace 19 = .ok (.baload, 1) := by decide +kernel
theorem dX7_nextPlace_20 : decode cX7_nextPlace 20 = .ok (.bipush 32, 2) := by decide +kernel
theorem dX7_nextPlace_22 : decode cX7_nextPlace 22 = .ok (.if_icmp .ne 16, 3) := by decide +kernel
theorem dX7_nextPlace_25 : decode cX7_nextPlace 25 = .ok (.aload_n 0, 1) := by decide +kernel
theorem dX7_nextPlace_26 : decode cX7_nextPlace 26 = .ok (.dup, 1) := by decide +kernel
theorem dX7_nextPlace_27 : decode cX7_nextPlace 27 = .ok (.getfield 19, 3) := by decide +kernel
theorem dX7_nextPlace_30 : decode cX7_nextPlace 30 = .ok (.iconst 1, 1) := by decide +kernel
theorem dX7_nextPlace_31 : decode cX7_nextPlace 31 = .ok (.iadd, 1) := by decide +kernel
theorem dX7_nextPlace_32 : decode cX7_nextPlace 32 = .ok (.putfield 19, 3) := by decide +kernel
theorem dX7_nextPlace_35 : decode cX7_nextPlace 35 = .ok (.goto (-35), 3) := by decide +kernel
theorem dX7_nextPlace_38 : decode cX7_nextPlace 38 = .ok (.aload_n 0, 1) := by decide +kernel
theorem dX7_nextPlace_39 : decode cX7_nextPlace 39 = .ok (.getfield 19, 3) := by decide +kernel
theorem dX7_nextPlace_42 : decode cX7_nextPlace 42 = .ok (.ireturn, 1) := by decide +kernel
set_option maxRecDepth 20000 in
theorem ggX7_faultHere_X7_nextPlace : GoodIn wsX7_faultHere wsX7_nextPlace := goodIn_sub (show ∀ w ∈ wsX7_nextPlace, w ∈ wsX7_faultHere from (List.forall_mem_cons.mpr ⟨List.mem_cons_of_mem _ (List.mem_append_left _ (List.mem_of_getElem? (i := 4) rfl)), (gw_a (List.forall_mem_cons.mpr ⟨List.mem_cons_of_mem _ (List.mem_append_left _ (List.mem_of_getElem? (i := 5) rfl)), (List.forall_mem_cons.mpr ⟨List.mem_cons_of_mem _ (List.mem_append_left _ (List.mem_of_getElem? (i := 6) rfl)), (List.forall_mem_cons.mpr ⟨List.mem_cons_of_mem _ (List.mem_append_left _ (List.mem_of_getElem? (i := 7) rfl)), (fun _ h => absurd h List.not_mem_nil)⟩)⟩)⟩) (fun _ h => List.mem_cons_of_mem _ (List.mem_append_right _ (h))))⟩)) (by decide +kernel)
set_option maxRecDepth 20000 in
theorem gX7_faultHere_X7_nextPlace : GoodIn wsX7_faultHere (wsV RX7 22 RX7 yX7_nextPlace wsX7_nextPlace) := goodIn_app (goodIn_sub (List.forall_mem_cons.mpr ⟨List.mem_cons_of_mem _ (List.mem_append_left _ (List.mem_of_getElem? (i := 0) rfl)), (List.forall_mem_cons.mpr ⟨List.mem_cons_of_mem _ (List.mem_append_left _ (List.mem_of_getElem? (i := 1) rfl)), (List.forall_mem_cons.mpr ⟨List.mem_cons_of_mem _ (List.mem_append_left _ (List.mem_of_getElem? (i := 2) rfl)), (List.forall_mem_cons.mpr ⟨List.mem_cons_of_mem _ (List.mem_append_left _ (List.mem_of_getElem? (i := 3) rfl)), (fun _ h => absurd h List.not_mem_nil)⟩)⟩)⟩)⟩) (by decide +kernel)) ggX7_faultHere_X7_nextPlace
set_option maxRecDepth 20000 in
theorem ggX7_faultHere_X10_faultAt : GoodIn wsX7_faultHere wsX10_faultAt := goodIn_sub (show ∀ w ∈ wsX10_faultAt, w ∈ wsX7_faultHere from (List.forall_mem_cons.mpr ⟨List.mem_cons_of_mem _ (List.mem_append_left _ (List.mem_of_getElem? (i := 10) rfl)), (fun _ h => absurd h List.not_mem_nil)⟩)) (by decide +kernel)
set_option maxRecDepth 20000 in
theorem gX7_faultHere_X10_faultAt_n26 : GoodIn wsX7_faultHere (wsX10_faultAt) := ggX7_faultHere_X10_faultAt
theorem dX7_faultHere_0 : decode cX7_faultHere 0 = .ok (.aload_n 0, 1) := by decide +kernel
theorem dX7_faultHere_1 : decode cX7_faultHere 1 = .ok (.invokevirtual 22, 3) := by decide +kernel
theorem dX7_faultHere_4 : decode cX7_faultHere 4 = .ok (.iload_n 1, 1) := by decide +kernel
theorem dX7_faultHere_5 : decode cX7_faultHere 5 = .ok (.invokestatic 26, 3) := by decide +kernel
theorem dX7_faultHere_8 : decode cX7_faultHere 8 = .ok (.ireturn, 1) := by decide +kernel
set_option maxRecDepth 20000 in
theorem ggX7_takes_X7_nextPlace : GoodIn wsX7_takes wsX7_nextPlace := goodIn_sub (show ∀ w ∈ wsX7_nextPlace, w ∈ wsX7_takes from (List.forall_mem_cons.mpr ⟨List.mem_cons_of_mem _ (List.mem_append_left _ (List.mem_of_getElem? (i := 7) rfl)), (gw_a (List.forall_mem_cons.mpr ⟨List.mem_cons_of_mem _ (List.mem_append_left _ (List.mem_of_getElem? (i := 2) rfl)), (List.forall_mem_cons.mpr ⟨List.mem_cons_of_mem _ (List.mem_append_left _ (List.mem_of_getElem? (i := 0) rfl)), (List.forall_mem_cons.mpr ⟨List.mem_cons_of_mem _ (List.mem_append_left _ (List.mem_of_getElem? (i := 1) rfl)), (fun _ h => absurd h List.not_mem_nil)⟩)⟩)⟩) (fun _ h => List.mem_cons_of_mem _ (List.mem_append_right _ (h))))⟩)) (by decide +kernel)
set_option maxRecDepth 20000 in
theorem gX7_takes_X7_nextPlace : GoodIn wsX7_takes (wsV RX7 22 RX7 yX7_nextPlace wsX7_nextPlace) := goodIn_app (goodIn_sub (List.forall_mem_cons.mpr ⟨List.mem_cons_of_mem _ (List.mem_append_left _ (List.mem_of_getElem? (i := 3) rfl)), (List.forall_mem_cons.mpr ⟨List.mem_cons_of_mem _ (List.mem_append_left _ (List.mem_of_getElem? (i := 4) rfl)), (List.forall_mem_cons.mpr ⟨List.mem_cons_of_mem _ (List.mem_append_left _ (List.mem_of_getElem? (i := 5) rfl)), (List.forall_mem_cons.mpr ⟨List.mem_cons_of_mem _ (List.mem_append_left _ (List.mem_of_getElem? (i := 6) rfl)), (fun _ h => absurd h List.not_mem_nil)⟩)⟩)⟩)⟩) (by decide +kernel)) ggX7_takes_X7_nextPlace
theorem dX7_takes_0 : decode cX7_takes 0 = .ok (.aload_n 0, 1) := by decide +kernel
theorem dX7_takes_1 : decode cX7_takes 1 = .ok (.invokevirtual 22, 3) := by decide +kernel
theorem dX7_takes_4 : decode cX7_takes 4 = .ok (.aload_n 0, 1) := by decide +kernel
theorem dX7_takes_5 : decode cX7_takes 5 = .ok (.getfield 15, 3) := by decide +kernel
theorem dX7_takes_8 : decode cX7_takes 8 = .ok (.if_icmp .ge 16, 3) := by decide +kernel
theorem dX7_takes_11 : decode cX7_takes 11 = .ok (.aload_n 0, 1) := by decide +kernel
theorem dX7_takes_12 : decode cX7_takes 12 = .ok (.getfield 9, 3) := by decide +kernel
theorem dX7_takes_15 : decode cX7_takes 15 = .ok (.aload_n 0, 1) := by decide +kernel
theorem dX7_takes_16 : decode cX7_takes 16 = .ok (.getfield 19, 3) := by decide +kernel
theorem dX7_takes_19 : decode cX7_takes 19 = .ok (.baload, 1) := by decide +kernel
theorem dX7_takes_20 : decode cX7_takes 20 = .ok (.iload_n 1, 1) := by decide +kernel
theorem dX7_takes_21 : decode cX7_takes 21 = .ok (.if_icmp .eq 5, 3) := by decide +kernel
theorem dX7_takes_24 : decode cX7_takes 24 = .ok (.iconst 0, 1) := by decide +kernel
theorem dX7_takes_25 : decode cX7_takes 25 = .ok (.ireturn, 1) := by decide +kernel
theorem dX7_takes_26 : decode cX7_takes 26 = .ok (.aload_n 0, 1) := by decide +kernel
theorem dX7_takes_27 : decode cX7_takes 27 = .ok (.dup, 1) := by decide +kernel
theorem dX7_takes_28 : decode cX7_takes 28 = .ok (.getfield 19, 3) := by decide +kernel
theorem dX7_takes_31 : decode cX7_takes 31 = .ok (.iconst 1, 1) := by decide +kernel
theorem dX7_takes_32 : decode cX7_takes 32 = .ok (.iadd, 1) := by decide +kernel
theorem dX7_takes_33 : decode cX7_takes 33 = .ok (.putfield 19, 3) := by decide +kernel
theorem dX7_takes_36 : decode cX7_takes 36 = .ok (.iconst 1, 1) := by decide +kernel
theorem dX7_takes_37 : decode cX7_takes 37 = .ok (.ireturn, 1) := by decide +kernel
set_option maxRecDepth 20000 in
theorem ggX7_takeWord_X7_nextPlace : GoodIn wsX7_takeWord wsX7_nextPlace := goodIn_sub (show ∀ w ∈ wsX7_nextPlace, w ∈ wsX7_takeWord from (List.forall_mem_cons.mpr ⟨List.mem_cons_of_mem _ (List.mem_append_left _ (List.mem_append_left _ (List.mem_of_getElem? (i := 5) rfl))), (gw_a (List.forall_mem_cons.mpr ⟨List.mem_cons_of_mem _ (List.mem_append_left _ (List.mem_append_left _ (List.mem_of_getElem? (i := 0) rfl))), (List.forall_mem_cons.mpr ⟨List.mem_cons_of_mem _ (List.mem_append_left _ (List.mem_append_left _ (List.mem_of_getElem? (i := 6) rfl))), (List.forall_mem_cons.mpr ⟨List.mem_cons_of_mem _ (List.mem_append_left _ (List.mem_append_left _ (List.mem_of_getElem? (i := 7) rfl))), (fun _ h => absurd h List.not_mem_nil)⟩)⟩)⟩) (fun _ h => List.mem_cons_of_mem _ (List.mem_append_right _ (h))))⟩)) (by decide +kernel)
set_option maxRecDepth 20000 in
theorem gX7_takeWord_X7_nextPlace : GoodIn wsX7_takeWord (wsV RX7 22 RX7 yX7_nextPlace wsX7_nextPlace) := goodIn_app (goodIn_sub (List.forall_mem_cons.mpr ⟨List.mem_cons_of_mem _ (List.mem_append_left _ (List.mem_append_left _ (List.mem_of_getElem? (i := 1) rfl))), (List.forall_mem_cons.mpr ⟨List.mem_cons_of_mem _ (List.mem_append_left _ (List.mem_append_left _ (List.mem_of_getElem? (i := 2) rfl))), (List.forall_mem_cons.mpr ⟨List.mem_cons_of_mem _ (List.mem_append_left _ (List.mem_append_left _ (List.mem_of_getElem? (i := 3) rfl))), (List.forall_mem_cons.mpr ⟨List.mem_cons_of_mem _ (List.mem_append_left _ (List.mem_append_left _ (List.mem_of_getElem? (i := 4) rfl))), (fun _ h => absurd h List.not_mem_nil)⟩)⟩)⟩)⟩) (by decide +kernel)) ggX7_takeWord_X7_nextPlace
set_option maxRecDepth 20000 in
theorem ggX7_takeWord_X7_wordSize : GoodIn wsX7_takeWord wsX7_wordSize := goodIn_sub (show ∀ w ∈ wsX7_wordSize, w ∈ wsX7_takeWord from (List.forall_mem_cons.mpr ⟨List.mem_cons_of_mem _ (List.mem_append_left _ (List.mem_append_left _ (List.mem_of_getElem? (i := 11) rfl))), (gw_a (List.forall_mem_cons.mpr ⟨List.mem_cons_of_mem _ (List.mem_append_left _ (List.mem_append_left _ (List.mem_of_getElem? (i := 6) rfl))), (List.forall_mem_cons.mpr ⟨List.mem_cons_of_mem _ (List.mem_append_left _ (List.mem_append_left _ (List.mem_of_getElem? (i := 7) rfl))), (List.forall_mem_cons.mpr ⟨List.mem_cons_of_mem _ (List.mem_append_left _ (List.mem_append_left _ (List.mem_of_getElem? (i := 12) rfl))), (List.forall_mem_cons.mpr ⟨List.mem_cons_of_mem _ (List.mem_append_left _ (List.mem_append_left _ (List.mem_of_getElem? (i := 13) rfl))), (List.forall_mem_cons.mpr ⟨List.mem_cons_of_mem _ (List.mem_append_left _ (List.mem_append_left _ (List.mem_of_getElem? (i := 14) rfl))), (fun _ h => absurd h List.not_mem_nil)⟩)⟩)⟩)⟩)⟩) (fun _ h => List.mem_cons_of_mem _ (List.mem_append_right _ (h))))⟩)) (by decide +kernel)
set_option maxRecDepth 20000 in
theorem gX7_takeWord_X7_wordSize : GoodIn wsX7_takeWord (wsV RX7 30 RX7 yX7_wordSize wsX7_wordSize) := goodIn_app (goodIn_sub (List.forall_mem_cons.mpr ⟨List.mem_cons_of_mem _ (List.mem_append_left _ (List.mem_append_left _ (List.mem_of_getElem? (i := 8) rfl))), (List.forall_mem_cons.mpr ⟨List.mem_cons_of_mem _ (List.mem_append_left _ (List.mem_append_left _ (List.mem_of_getElem? (i := 9) rfl))), (List.forall_mem_cons.mpr ⟨List.mem_cons_of_mem _ (List.mem_append_left _ (List.mem_append_left _ (List.mem_of_getElem? (i := 10) rfl))), (List.forall_mem_cons.mpr ⟨List.mem_cons_of_mem _ (List.mem_append_left _ (List.mem_append_left _ (List.mem_of_getElem? (i := 4) rfl))), (fun _ h => absurd h List.not_mem_nil)⟩)⟩)⟩)⟩) (by decide +kernel)) ggX7_takeWord_X7_wordSize
set_option maxRecDepth 20000 in
theorem ggX7_takeWord_X7_indexInList : GoodIn wsX7_takeWord wsX7_indexInList := goodIn_sub (show ∀ w ∈ wsX7_indexInList, w ∈ wsX7_takeWord from (List.forall_mem_cons.mpr ⟨List.mem_cons_of_mem _ (List.mem_append_left _ (List.mem_append_left _ (List.mem_of_getElem? (i := 18) rfl))), (gw_a (gw_a (List.forall_mem_cons.mpr ⟨List.mem_cons_of_mem _ (List.mem_append_left _ (List.mem_append_left _ (List.mem_of_getElem? (i := 19) rfl))), (List.forall_mem_cons.mpr ⟨List.mem_cons_of_mem _ (List.mem_append_left _ (List.mem_append_left _ (List.mem_of_getElem? (i := 20) rfl))), (List.forall_mem_cons.mpr ⟨List.mem_cons_of_mem _ (List.mem_append_left _ (List.mem_append_left _ (List.mem_of_getElem? (i := 21) rfl))), (List.forall_mem_cons.mpr ⟨List.mem_cons_of_mem _ (List.mem_append_left _ (List.mem_append_left _ (List.mem_of_getElem? (i := 22) rfl))), (List.forall_mem_cons.mpr ⟨List.mem_cons_of_mem _ (List.mem_append_left _ (List.mem_append_left _ (List.mem_of_getElem? (i := 23) rfl))), (List.forall_mem_cons.mpr ⟨List.mem_cons_of_mem _ (List.mem_append_left _ (List.mem_append_right _ (List.mem_append_left _ (List.mem_of_getElem? (i := 0) rfl)))), (List.forall_mem_cons.mpr ⟨List.mem_cons_of_mem _ (List.mem_append_left _ (List.mem_append_right _ (List.mem_append_left _ (List.mem_of_getElem? (i := 1) rfl)))), (List.forall_mem_cons.mpr ⟨List.mem_cons_of_mem _ (List.mem_append_left _ (List.mem_append_right _ (List.mem_append_left _ (List.mem_of_getElem? (i := 2) rfl)))), (List.forall_mem_cons.mpr ⟨List.mem_cons_of_mem _ (List.mem_append_left _ (List.mem_append_right _ (List.mem_append_left _ (List.mem_of_getElem? (i := 3) rfl)))), (List.forall_mem_cons.mpr ⟨List.mem_cons_of_mem _ (List.mem_append_left _ (List.mem_append_right _ (List.mem_append_left _ (List.mem_of_getElem? (i := 4) rfl)))), (List.forall_mem_cons.mpr ⟨List.mem_cons_of_mem _ (List.mem_append_left _ (List.mem_append_right _ (List.mem_append_left _ (List.mem_of_getElem? (i := 5) rfl)))), (List.forall_mem_cons.mpr ⟨List.mem_cons_of_mem _ (List.mem_append_left _ (List.mem_append_right _ (List.mem_append_left _ (List.mem_of_getElem? (i := 6) rfl)))), (List.forall_mem_cons.mpr ⟨List.mem_cons_of_mem _ (List.mem_append_left _ (List.mem_append_right _ (List.mem_append_left _ (List.mem_of_getElem? (i := 7) rfl)))), (List.forall_mem_cons.mpr ⟨List.mem_cons_of_mem _ (List.mem_append_left _ (List.mem_append_right _ (List.mem_append_left _ (List.mem_of_getElem? (i := 8) rfl)))), (List.forall_mem_cons.mpr ⟨List.mem_cons_of_mem _ (List.mem_append_left _ (List.mem_append_right _ (List.mem_append_left _ (List.mem_of_getElem? (i := 9) rfl)))), (List.forall_mem_cons.mpr ⟨List.mem_cons_of_mem _ (List.mem_append_left _ (List.mem_append_right _ (List.mem_append_left _ (List.mem_of_getElem? (i := 10) rfl)))), (List.forall_mem_cons.mpr ⟨List.mem_cons_of_mem _ (List.mem_append_left _ (List.mem_append_right _ (List.mem_append_left _ (List.mem_of_getElem? (i := 11) rfl)))), (List.forall_mem_cons.mpr ⟨List.mem_cons_of_mem _ (List.mem_append_left _ (List.mem_append_right _ (List.mem_append_left _ (List.mem_of_getElem? (i := 12) rfl)))), (List.forall_mem_cons.mpr ⟨List.mem_cons_of_mem _ (List.mem_append_left _ (List.mem_append_right _ (List.mem_append_left _ (List.mem_of_getElem? (i := 13) rfl)))), (List.forall_mem_cons.mpr ⟨List.mem_cons_of_mem _ (List.mem_append_left _ (List.mem_append_right _ (List.mem_append_left _ (List.mem_of_getElem? (i := 14) rfl)))), (List.forall_mem_cons.mpr ⟨List.mem_cons_of_mem _ (List.mem_append_left _ (List.mem_append_right _ (List.mem_append_left _ (List.mem_of_getElem? (i := 15) rfl)))), (List.forall_mem_cons.mpr ⟨List.mem_cons_of_mem _ (List.mem_append_left _ (List.mem_append_right _ (List.mem_append_left _ (List.mem_of_getElem? (i := 16) rfl)))), (List.forall_mem_cons.mpr ⟨List.mem_cons_of_mem _ (List.mem_append_left _ (List.mem_append_right _ (List.mem_append_left _ (List.mem_of_getElem? (i := 17) rfl)))), (List.forall_mem_cons.mpr ⟨List.mem_cons_of_mem _ (List.mem_append_left _ (List.mem_append_right _ (List.mem_append_left _ (List.mem_of_getElem? (i := 18) rfl)))), (fun _ h => absurd h List.not_mem_nil)⟩)⟩)⟩)⟩)⟩)⟩)⟩)⟩)⟩)⟩)⟩)⟩)⟩)⟩)⟩)⟩)⟩)⟩)⟩)⟩)⟩)⟩)⟩)⟩) (gw_a (List.forall_mem_cons.mpr ⟨List.mem_cons_of_mem _ (List.mem_append_left _ (List.mem_append_right _ (List.mem_append_left _ (List.mem_of_getElem? (i := 19) rfl)))), (List.forall_mem_cons.mpr ⟨List.mem_cons_of_mem _ (List.mem_append_left _ (List.mem_append_right _ (List.mem_append_left _ (List.mem_of_getElem? (i := 20) rfl)))), (List.forall_mem_cons.mpr ⟨List.mem_cons_of_mem _ (List.mem_append_left _ (List.mem_append_right _ (List.mem_append_left _ (List.mem_of_getElem? (i := 21) rfl)))), (List.forall_mem_cons.mpr ⟨List.mem_cons_of_mem _ (List.mem_append_left _ (List.mem_append_right _ (List.mem_append_left _ (List.mem_of_getElem? (i := 22) rfl)))), (List.forall_mem_cons.mpr ⟨List.mem_cons_of_mem _ (List.mem_append_left _ (List.mem_append_right _ (List.mem_append_left _ (List.mem_of_getElem? (i := 23) rfl)))), (List.forall_mem_cons.mpr ⟨List.mem_cons_of_mem _ (List.mem_append_left _ (List.mem_append_right _ (List.mem_append_right _ (List.mem_of_getElem? (i := 0) rfl)))), (List.forall_mem_cons.mpr ⟨List.mem_cons_of_mem _ (List.mem_append_left _ (List.mem_append_right _ (List.mem_append_right _ (List.mem_of_getElem? (i := 1) rfl)))), (List.forall_mem_cons.mpr ⟨List.mem_cons_of_mem _ (List.mem_append_left _ (List.mem_append_right _ (List.mem_append_right _ (List.mem_of_getElem? (i := 2) rfl)))), (List.forall_mem_cons.mpr ⟨List.mem_cons_of_mem _ (List.mem_append_left _ (List.mem_append_right _ (List.mem_append_right _ (List.mem_of_getElem? (i := 3) rfl)))), (List.forall_mem_cons.mpr ⟨List.mem_cons_of_mem _ (List.mem_append_left _ (List.mem_append_right _ (List.mem_append_right _ (List.mem_of_getElem? (i := 4) rfl)))), (List.forall_mem_cons.mpr ⟨List.mem_cons_of_mem _ (List.mem_append_left _ (List.mem_append_right _ (List.mem_append_right _ (List.mem_of_getElem? (i := 5) rfl)))), (List.forall_mem_cons.mpr ⟨List.mem_cons_of_mem _ (List.mem_append_left _ (List.mem_append_right _ (List.mem_append_right _ (List.mem_of_getElem? (i := 6) rfl)))), (List.forall_mem_cons.mpr ⟨List.mem_cons_of_mem _ (List.mem_append_left _ (List.mem_append_right _ (List.mem_append_right _ (List.mem_of_getElem? (i := 7) rfl)))), (List.forall_mem_cons.mpr ⟨List.mem_cons_of_mem _ (List.mem_append_left _ (List.mem_append_right _ (List.mem_append_right _ (List.mem_of_getElem? (i := 8) rfl)))), (List.forall_mem_cons.mpr ⟨List.mem_cons_of_mem _ (List.mem_append_left _ (List.mem_append_right _ (List.mem_append_right _ (List.mem_of_getElem? (i := 9) rfl)))), (List.forall_mem_cons.mpr ⟨List.mem_cons_of_mem _ (List.mem_append_left _ (List.mem_append_right _ (List.mem_append_right _ (List.mem_of_getElem? (i := 10) rfl)))), (List.forall_mem_cons.mpr ⟨List.mem_cons_of_mem _ (List.mem_append_left _ (List.mem_append_right _ (List.mem_append_right _ (List.mem_of_getElem? (i := 11) rfl)))), (List.forall_mem_cons.mpr ⟨List.mem_cons_of_mem _ (List.mem_append_left _ (List.mem_append_right _ (List.mem_append_right _ (List.mem_of_getElem? (i := 12) rfl)))), (List.forall_mem_cons.mpr ⟨List.mem_cons_of_mem _ (List.mem_append_left _ (List.mem_append_right _ (List.mem_append_right _ (List.mem_of_getElem? (i := 13) rfl)))), (List.forall_mem_cons.mpr ⟨List.mem_cons_of_mem _ (List.mem_append_left _ (List.mem_append_right _ (List.mem_append_right _ (List.mem_of_getElem? (i := 14) rfl)))), (List.forall_mem_cons.mpr ⟨List.mem_cons_of_mem _ (List.mem_append_left _ (List.mem_append_right _ (List.mem_append_right _ (List.mem_of_getElem? (i := 15) rfl)))), (List.forall_mem_cons.mpr ⟨List.mem_cons_of_mem _ (List.mem_append_left _ (List.mem_append_right _ (List.mem_append_right _ (List.mem_of_getElem? (i := 16) rfl)))), (List.forall_mem_cons.mpr ⟨List.mem_cons_of_mem _ (List.mem_append_left _ (List.mem_append_right _ (List.mem_append_right _ (List.mem_of_getElem? (i := 17) rfl)))), (List.forall_mem_cons.mpr ⟨List.mem_cons_of_mem _ (List.mem_append_left _ (List.mem_append_right _ (List.mem_append_right _ (List.mem_of_getElem? (i := 18) rfl)))), (fun _ h => absurd h List.not_mem_nil)⟩)⟩)⟩)⟩)⟩)⟩)⟩)⟩)⟩)⟩)⟩)⟩)⟩)⟩)⟩)⟩)⟩)⟩)⟩)⟩)⟩)⟩)⟩)⟩) (List.forall_mem_cons.mpr ⟨List.mem_cons_of_mem _ (List.mem_append_left _ (List.mem_append_right _ (List.mem_append_right _ (List.mem_of_getElem? (i := 19) rfl)))), (List.forall_mem_cons.mpr ⟨List.mem_cons_of_mem _ (List.mem_append_left _ (List.mem_append_right _ (List.mem_append_right _ (List.mem_of_getElem? (i := 20) rfl)))), (List.forall_mem_cons.mpr ⟨List.mem_cons_of_mem _ (List.mem_append_left _ (List.mem_append_right _ (List.mem_append_right _ (List.mem_of_getElem? (i := 21) rfl)))), (List.forall_mem_cons.mpr ⟨List.mem_cons_of_mem _ (List.mem_append_left _ (List.mem_append_right _ (List.mem_append_right _ (List.mem_of_getElem? (i := 22) rfl)))), (List.forall_mem_cons.mpr ⟨List.mem_cons_of_mem _ (List.mem_append_left _ (List.mem_append_left _ (List.mem_of_getElem? (i := 4) rfl))), (List.forall_mem_cons.mpr ⟨List.mem_cons_of_mem _ (List.mem_append_left _ (List.mem_append_right _ (List.mem_append_right _ (List.mem_of_getElem? (i := 23) rfl)))), (List.forall_mem_cons.mpr ⟨List.mem_cons_of_mem _ (List.mem_append_left _ (List.mem_append_left _ (List.mem_of_getElem? (i := 7) rfl))), (fun _ h => absurd h List.not_mem_nil)⟩)⟩)⟩)⟩)⟩)⟩)⟩))) (fun _ h => List.mem_cons_of_mem _ (List.mem_append_right _ (h))))⟩)) (by decide +kernel)
set_option maxRecDepth 20000 in
theorem gX7_takeWord_X7_indexInList : GoodIn wsX7_takeWord (wsV RX7 34 RX7 yX7_indexInList wsX7_indexInList) := goodIn_app (goodIn_sub (List.forall_mem_cons.mpr ⟨List.mem_cons_of_mem _ (List.mem_append_left _ (List.mem_append_left _ (List.mem_of_getElem? (i := 15) rfl))), (List.forall_mem_cons.mpr ⟨List.mem_cons_of_mem _ (List.mem_append_left _ (List.mem_append_left _ (List.mem_of_getElem? (i := 16) rfl))), (List.forall_mem_cons.mpr ⟨List.mem_cons_of_mem _ (List.mem_append_left _ (List.mem_append_left _ (List.mem_of_getElem? (i := 17) rfl))), (List.forall_mem_cons.mpr ⟨List.mem_cons_of_mem _ (List.mem_append_left _ (List.mem_append_left _ (List.mem_of_getElem? (i := 4) rfl))), (fun _ h => absurd h List.not_mem_nil)⟩)⟩)⟩)⟩) (by decide +kernel)) ggX7_takeWord_X7_indexInList
theorem dX7_takeWord_0 : decode cX7_takeWord 0 = .ok (.aload_n 0, 1) := by decide +kernel
theorem dX7_takeWord_1 : decode cX7_takeWord 1 = .ok (.aload_n 0, 1) := by decide +kernel
theorem dX7_takeWord_2 : decode cX7_takeWord 2 = .ok (.invokevirtual 22, 3) := by decide +kernel
theorem dX7_takeWord_5 : decode cX7_takeWord 5 = .ok (.invokevirtual 30, 3) := by decide +kernel
theorem dX7_takeWord_8 : decode cX7_takeWord 8 = .ok (.istore_n 2, 1) := by decide +kernel
theorem dX7_takeWord_9 : decode cX7_takeWord 9 = .ok (.iload_n 2, 1) := by decide +kernel
theorem dX7_takeWord_10 : decode cX7_takeWord 10 = .ok (.ifCond .ne 7, 3) := by decide +kernel
theorem dX7_takeWord_13 : decode cX7_takeWord 13 = .ok (.iconst (-1), 1) := by decide +kernel
theorem dX7_takeWord_14 : decode cX7_takeWord 14 = .ok (.goto 13, 3) := by decide +kernel
theorem dX7_takeWord_17 : decode cX7_takeWord 17 = .ok (.aload_n 0, 1) := by decide +kernel
theorem dX7_takeWord_18 : decode cX7_takeWord 18 = .ok (.aload_n 1, 1) := by decide +kernel
theorem dX7_takeWord_19 : decode cX7_takeWord 19 = .ok (.aload_n 0, 1) := by decide +kernel
theorem dX7_takeWord_20 : decode cX7_takeWord 20 = .ok (.getfield 19, 3) := by decide +kernel
theorem dX7_takeWord_23 : decode cX7_takeWord 23 = .ok (.iload_n 2, 1) := by decide +kernel
theorem dX7_takeWord_24 : decode cX7_takeWord 24 = .ok (.invokevirtual 34, 3) := by decide +kernel
theorem dX7_takeWord_27 : decode cX7_takeWord 27 = .ok (.istore_n 3, 1) := by decide +kernel
theorem dX7_takeWord_28 : decode cX7_takeWord 28 = .ok (.iload_n 3, 1) := by decide +kernel
theorem dX7_takeWord_29 : decode cX7_takeWord 29 = .ok (.iconst (-1), 1) := by decide +kernel
theorem dX7_takeWord_30 : decode cX7_takeWord 30 = .ok (.if_icmp .eq 13, 3) := by decide +kernel
theorem dX7_takeWord_33 : decode cX7_takeWord 33 = .ok (.aload_n 0, 1) := by decide +kernel
theorem dX7_takeWord_34 : decode cX7_takeWord 34 = .ok (.dup, 1) := by decide +kernel
theorem dX7_takeWord_35 : decode cX7_takeWord 35 = .ok (.getfield 19, 3) := by decide +kernel
theorem dX7_takeWord_38 : decode cX7_takeWord 38 = .ok (.iload_n 2, 1) := by decide +kernel
theorem dX7_takeWord_39 : decode cX7_takeWord 39 = .ok (.iadd, 1) := by decide +kernel
theorem dX7_takeWord_40 : decode cX7_takeWord 40 = .ok (.putfield 19, 3) := by decide +kernel
theorem dX7_takeWord_43 : decode cX7_takeWord 43 = .ok (.iload_n 3, 1) := by decide +kernel
theorem dX7_takeWord_44 : decode cX7_takeWord 44 = .ok (.ireturn, 1) := by decide +kernel
set_option maxRecDepth 20000 in
theorem ggX7_takeNumber_X7_nextPlace : GoodIn wsX7_takeNumber wsX7_nextPlace := goodIn_sub (show ∀ w ∈ wsX7_nextPlace, w ∈ wsX7_takeNumber from (List.forall_mem_cons.mpr ⟨List.mem_cons_of_mem _ (List.mem_append_left _ (List.mem_of_getElem? (i := 7) rfl)), (gw_a (List.forall_mem_cons.mpr ⟨List.mem_cons_of_mem _ (List.mem_append_left _ (List.mem_of_getElem? (i := 2) rfl)), (List.forall_mem_cons.mpr ⟨List.mem_cons_of_mem _ (List.mem_append_left _ (List.mem_of_getElem? (i := 0) rfl)), (List.forall_mem_cons.mpr ⟨List.mem_cons_of_mem _ (List.mem_append_left _ (List.mem_of_getElem? (i := 1) rfl)), (fun _ h => absurd h List.not_mem_nil)⟩)⟩)⟩) (fun _ h => List.mem_cons_of_mem _ (List.mem_append_right _ (h))))⟩)) (by decide +kernel)
set_option maxRecDepth 20000 in
theorem gX7_takeNumber_X7_nextPlace : GoodIn wsX7_takeNumber (wsV RX7 22 RX7 yX7_nextPlace wsX7_nextPlace) := goodIn_app (goodIn_sub (List.forall_mem_cons.mpr ⟨List.mem_cons_of_mem _ (List.mem_append_left _ (List.mem_of_getElem? (i := 3) rfl)), (List.forall_mem_cons.mpr ⟨List.mem_cons_of_mem _ (List.mem_append_left _ (List.mem_of_getElem? (i := 4) rfl)), (List.forall_mem_cons.mpr ⟨List.mem_cons_of_mem _ (List.mem_append_left _ (List.mem_of_getElem? (i := 5) rfl)), (List.forall_mem_cons.mpr ⟨List.mem_cons_of_mem _ (List.mem_append_left _ (List.mem_of_getElem? (i := 6) rfl)), (fun _ h => absurd h List.not_mem_nil)⟩)⟩)⟩)⟩) (by decide +kernel)) ggX7_takeNumber_X7_nextPlace
set_option maxRecDepth 20000 in
theorem ggX7_takeNumber_X10_isWithin : GoodIn wsX7_takeNumber wsX10_isWithin := goodIn_sub (show ∀ w ∈ wsX10_isWithin, w ∈ wsX7_takeNumber from (List.forall_mem_cons.mpr ⟨List.mem_cons_of_mem _ (List.mem_append_left _ (List.mem_of_getElem? (i := 10) rfl)), (fun _ h => absurd h List.not_mem_nil)⟩)) (by decide +kernel)
set_option maxRecDepth 20000 in
theorem gX7_takeNumber_X10_isWithin_n38 : GoodIn wsX7_takeNumber (wsX10_isWithin) := ggX7_takeNumber_X10_isWithin
theorem dX7_takeNumber_0 : decode cX7_takeNumber 0 = .ok (.aload_n 0, 1) := by decide +kernel
theorem dX7_takeNumber_1 : decode cX7_takeNumber 1 = .ok (.invokevirtual 22, 3) := by decide +kernel
theorem dX7_takeNumber_4 : decode cX7_takeNumber 4 = .ok (.istore_n 2, 1) := by decide +kernel
theorem dX7_takeNumber_5 : decode cX7_takeNumber 5 = .ok (.iconst 0, 1) := by decide +kernel
theorem dX7_takeNumber_6 : decode cX7_takeNumber 6 = .ok (.istore_n 3, 1) := by decide +kernel
theorem dX7_takeNumber_7 : decode cX7_takeNumber 7 = .ok (.iload_n 2, 1) := by decide +kernel
theorem dX7_takeNumber_8 : decode cX7_takeNumber 8 = .ok (.aload_n 0, 1) := by decide +kernel
theorem dX7_takeNumber_9 : decode cX7_takeNumber 9 = .ok (.getfield 15, 3) := by decide +kernel
theorem dX7_takeNumber_12 : decode cX7_takeNumber 12 = .ok (.if_icmp .ge 53, 3) := by decide +kernel
theorem dX7_takeNumber_15 : decode cX7_takeNumber 15 = .ok (.aload_n 0, 1) := by decide +kernel
theorem dX7_takeNumber_16 : decode cX7_takeNumber 16 = .ok (.getfield 9, 3) := by decide +kernel
theorem dX7_takeNumber_19 : decode cX7_takeNumber 19 = .ok (.iload_n 2, 1) := by decide +kernel
theorem dX7_takeNumber_20 : decode cX7_takeNumber 20 = .ok (.baload, 1) := by decide +kernel
theorem dX7_takeNumber_21 : decode cX7_takeNumber 21 = .ok (.bipush 48, 2) := by decide +kernel
theorem dX7_takeNumber_23 : decode cX7_takeNumber 23 = .ok (.bipush 57, 2) := by decide +kernel
theorem dX7_takeNumber_25 : decode cX7_takeNumber 25 = .ok (.invokestatic 38, 3) := by decide +kernel
theorem dX7_takeNumber_28 : decode cX7_takeNumber 28 = .ok (.ifCond .eq 37, 3) := by decide +kernel
theorem dX7_takeNumber_31 : decode cX7_takeNumber 31 = .ok (.iload_n 2, 1) := by decide +kernel
theorem dX7_takeNumber_32 : decode cX7_takeNumber 32 = .ok (.aload_n 0, 1) := by decide +kernel
theorem dX7_takeNumber_33 : decode cX7_takeNumber 33 = .ok (.getfield 19, 3) := by decide +kernel
theorem dX7_takeNumber_36 : decode cX7_takeNumber 36 = .ok (.isub, 1) := by decide +kernel
theorem dX7_takeNumber_37 : decode cX7_takeNumber 37 = .ok (.iload_n 1, 1) := by decide +kernel
theorem dX7_takeNumber_38 : decode cX7_takeNumber 38 = .ok (.if_icmp .lt 6, 3) := by decide +kernel
theorem dX7_takeNumber_41 : decode cX7_takeNumber 41 = .ok (.bipush (-2), 2) := by decide +kernel
theorem dX7_takeNumber_43 : decode cX7_takeNumber 43 = .ok (.ireturn, 1) := by decide +kernel
theorem dX7_takeNumber_44 : decode cX7_takeNumber 44 = .ok (.iload_n 3, 1) := by decide +kernel
theorem dX7_takeNumber_45 : decode cX7_takeNumber 45 = .ok (.bipush 10, 2) := by decide +kernel
theorem dX7_takeNumber_47 : decode cX7_takeNumber 47 = .ok (.imul, 1) := by decide +kernel
theorem dX7_takeNumber_48 : decode cX7_takeNumber 48 = .ok (.aload_n 0, 1) := by decide +kernel
theorem dX7_takeNumber_49 : decode cX7_takeNumber 49 = .ok (.getfield 9, 3) := by decide +kernel
theorem dX7_takeNumber_52 : decode cX7_takeNumber 52 = .ok (.iload_n 2, 1) := by decide +kernel
theorem dX7_takeNumber_53 : decode cX7_takeNumber 53 = .ok (.baload, 1) := by decide +kernel
theorem dX7_takeNumber_54 : decode cX7_takeNumber 54 = .ok (.iadd, 1) := by decide +kernel
theorem dX7_takeNumber_55 : decode cX7_takeNumber 55 = .ok (.bipush 48, 2) := by decide +kernel
theorem dX7_takeNumber_57 : decode cX7_takeNumber 57 = .ok (.isub, 1) := by decide +kernel
theorem dX7_takeNumber_58 : decode cX7_takeNumber 58 = .ok (.istore_n 3, 1) := by decide +kernel
theorem dX7_takeNumber_59 : decode cX7_takeNumber 59 = .ok (.iinc 2 1, 3) := by decide +kernel
theorem dX7_takeNumber_62 : decode cX7_takeNumber 62 = .ok (.goto (-55), 3) := by decide +kernel
theorem dX7_takeNumber_65 : decode cX7_takeNumber 65 = .ok (.iload_n 2, 1) := by decide +kernel
theorem dX7_takeNumber_66 : decode cX7_takeNumber 66 = .ok (.aload_n 0, 1) := by decide +kernel
theorem dX7_takeNumber_67 : decode cX7_takeNumber 67 = .ok (.getfield 19, 3) := by decide +kernel
theorem dX7_takeNumber_70 : decode cX7_takeNumber 70 = .ok (.if_icmp .ne 5, 3) := by decide +kernel
theorem dX7_takeNumber_73 : decode cX7_takeNumber 73 = .ok (.iconst (-1), 1) := by decide +kernel
theorem dX7_takeNumber_74 : decode cX7_takeNumber 74 = .ok (.ireturn, 1) := by decide +kernel
theorem dX7_takeNumber_75 : decode cX7_takeNumber 75 = .ok (.aload_n 0, 1) := by decide +kernel
theorem dX7_takeNumber_76 : decode cX7_takeNumber 76 = .ok (.iload_n 2, 1) := by decide +kernel
theorem dX7_takeNumber_77 : decode cX7_takeNumber 77 = .ok (.putfield 19, 3) := by decide +kernel
theorem dX7_takeNumber_80 : decode cX7_takeNumber 80 = .ok (.iload_n 3, 1) := by decide +kernel
theorem dX7_takeNumber_81 : decode cX7_takeNumber 81 = .ok (.ireturn, 1) := by decide +kernel
set_option maxRecDepth 20000 in
theorem ggX7_wordSize_X10_isWithin : GoodIn wsX7_wordSize wsX10_isWithin := goodIn_sub (show ∀ w ∈ wsX10_isWithin, w ∈ wsX7_wordSize from (List.forall_mem_cons.mpr ⟨List.mem_cons_of_mem _ (List.mem_append_left _ (List.mem_of_getElem? (i := 4) rfl)), (fun _ h => absurd h List.not_mem_nil)⟩)) (by decide +kernel)
set_option maxRecDepth 20000 in
theorem gX7_wordSize_X10_isWithin_n38 : GoodIn wsX7_wordSize (wsX10_isWithin) := ggX7_wordSize_X10_isWithin
theorem dX7_wordSize_0 : decode cX7_wordSize 0 = .ok (.iload_n 1, 1) := by decide +kernel
theorem dX7_wordSize_1 : decode cX7_wordSize 1 = .ok (.istore_n 2, 1) := by decide +kernel
theorem dX7_wordSize_2 : decode cX7_wordSize 2 = .ok (.iload_n 2, 1) := by decide +kernel
theorem dX7_wordSize_3 : decode cX7_wordSize 3 = .ok (.aload_n 0, 1) := by decide +kernel
theorem dX7_wordSize_4 : decode cX7_wordSize 4 = .ok (.getfield 15, 3) := by decide +kernel
theorem dX7_wordSize_7 : decode cX7_wordSize 7 = .ok (.if_icmp .ge 25, 3) := by decide +kernel
theorem dX7_wordSize_10 : decode cX7_wordSize 10 = .ok (.aload_n 0, 1) := by decide +kernel
theorem dX7_wordSize_11 : decode cX7_wordSize 11 = .ok (.getfield 9, 3) := by decide +kernel
theorem dX7_wordSize_14 : decode cX7_wordSize 14 = .ok (.iload_n 2, 1) := by decide +kernel
theorem dX7_wordSize_15 : decode cX7_wordSize 15 = .ok (.baload, 1) := by decide +kernel
theorem dX7_wordSize_16 : decode cX7_wordSize 16 = .ok (.bipush 97, 2) := by decide +kernel
theorem dX7_wordSize_18 : decode cX7_wordSize 18 = .ok (.bipush 122, 2) := by decide +kernel
theorem dX7_wordSize_20 : decode cX7_wordSize 20 = .ok (.invokestatic 38, 3) := by decide +kernel
theorem dX7_wordSize_23 : decode cX7_wordSize 23 = .ok (.ifCond .eq 9, 3) := by decide +kernel
theorem dX7_wordSize_26 : decode cX7_wordSize 26 = .ok (.iinc 2 1, 3) := by decide +kernel
theorem dX7_wordSize_29 : decode cX7_wordSize 29 = .ok (.goto (-27), 3) := by decide +kernel
theorem dX7_wordSize_32 : decode cX7_wordSize 32 = .ok (.iload_n 2, 1) := by decide +kernel
theorem dX7_wordSize_33 : decode cX7_wordSize 33 = .ok (.iload_n 1, 1) := by decide +kernel
theorem dX7_wordSize_34 : decode cX7_wordSize 34 = .ok (.isub, 1) := by decide +kernel
theorem dX7_wordSize_35 : decode cX7_wordSize 35 = .ok (.ireturn, 1) := by decide +kernel
set_option maxRecDepth 20000 in
theorem ggX7_indexInList_J0_length_8abf5 : GoodIn wsX7_indexInList wsJ0_length_8abf5 := goodIn_sub (show ∀ w ∈ wsJ0_length_8abf5, w ∈ wsX7_indexInList from (List.forall_mem_cons.mpr ⟨List.mem_cons_of_mem _ (List.mem_append_left _ (List.mem_append_left _ (List.mem_of_getElem? (i := 4) rfl))), (List.forall_mem_cons.mpr ⟨List.mem_cons_of_mem _ (List.mem_append_left _ (List.mem_append_left _ (List.mem_of_getElem? (i := 5) rfl))), (List.forall_mem_cons.mpr ⟨List.mem_cons_of_mem _ (List.mem_append_left _ (List.mem_append_left _ (List.mem_of_getElem? (i := 6) rfl))), (List.forall_mem_cons.mpr ⟨List.mem_cons_of_mem _ (List.mem_append_left _ (List.mem_append_left _ (List.mem_of_getElem? (i := 7) rfl))), (List.forall_mem_cons.mpr ⟨List.mem_cons_of_mem _ (List.mem_append_left _ (List.mem_append_left _ (List.mem_of_getElem? (i := 8) rfl))), (List.forall_mem_cons.mpr ⟨List.mem_cons_of_mem _ (List.mem_append_left _ (List.mem_append_left _ (List.mem_of_getElem? (i := 3) rfl))), (List.forall_mem_cons.mpr ⟨List.mem_cons_of_mem _ (List.mem_append_left _ (List.mem_append_left _ (List.mem_of_getElem? (i := 9) rfl))), (List.forall_mem_cons.mpr ⟨List.mem_cons_of_mem _ (List.mem_append_left _ (List.mem_append_left _ (List.mem_of_getElem? (i := 10) rfl))), (List.forall_mem_cons.mpr ⟨List.mem_cons_of_mem _ (List.mem_append_left _ (List.mem_append_left _ (List.mem_of_getElem? (i := 11) rfl))), (fun _ h => absurd h List.not_mem_nil)⟩)⟩)⟩)⟩)⟩)⟩)⟩)⟩)⟩)) (by decide +kernel)
set_option maxRecDepth 20000 in
theorem gX7_indexInList_J0_length_8abf5 : GoodIn wsX7_indexInList (wsV RX7 42 RJ0 yJ0_length_8abf5 wsJ0_length_8abf5) := goodIn_app (goodIn_sub (List.forall_mem_cons.mpr ⟨List.mem_cons_of_mem _ (List.mem_append_left _ (List.mem_append_left _ (List.mem_of_getElem? (i := 0) rfl))), (List.forall_mem_cons.mpr ⟨List.mem_cons_of_mem _ (List.mem_append_left _ (List.mem_append_left _ (List.mem_of_getElem? (i := 1) rfl))), (List.forall_mem_cons.mpr ⟨List.mem_cons_of_mem _ (List.mem_append_left _ (List.mem_append_left _ (List.mem_of_getElem? (i := 2) rfl))), (List.forall_mem_cons.mpr ⟨List.mem_cons_of_mem _ (List.mem_append_left _ (List.mem_append_left _ (List.mem_of_getElem? (i := 3) rfl))), (fun _ h => absurd h List.not_mem_nil)⟩)⟩)⟩)⟩) (by decide +kernel)) ggX7_indexInList_J0_length_8abf5
set_option maxRecDepth 20000 in
theorem ggX7_indexInList_J0_charAt_5068e : GoodIn wsX7_indexInList wsJ0_charAt_5068e := goodIn_sub (show ∀ w ∈ wsJ0_charAt_5068e, w ∈ wsX7_indexInList from (List.forall_mem_cons.mpr ⟨List.mem_cons_of_mem _ (List.mem_append_left _ (List.mem_append_left _ (List.mem_of_getElem? (i := 15) rfl))), (gw_a (List.forall_mem_cons.mpr ⟨List.mem_cons_of_mem _ (List.mem_append_left _ (List.mem_append_left _ (List.mem_of_getElem? (i := 5) rfl))), (List.forall_mem_cons.mpr ⟨List.mem_cons_of_mem _ (List.mem_append_left _ (List.mem_append_left _ (List.mem_of_getElem? (i := 16) rfl))), (List.forall_mem_cons.mpr ⟨List.mem_cons_of_mem _ (List.mem_append_left _ (List.mem_append_left _ (List.mem_of_getElem? (i := 17) rfl))), (List.forall_mem_cons.mpr ⟨List.mem_cons_of_mem _ (List.mem_append_left _ (List.mem_append_left _ (List.mem_of_getElem? (i := 18) rfl))), (List.forall_mem_cons.mpr ⟨List.mem_cons_of_mem _ (List.mem_append_left _ (List.mem_append_left _ (List.mem_of_getElem? (i := 3) rfl))), (List.forall_mem_cons.mpr ⟨List.mem_cons_of_mem _ (List.mem_append_left _ (List.mem_append_left _ (List.mem_of_getElem? (i := 19) rfl))), (List.forall_mem_cons.mpr ⟨List.mem_cons_of_mem _ (List.mem_append_left _ (List.mem_append_left _ (List.mem_of_getElem? (i := 10) rfl))), (List.forall_mem_cons.mpr ⟨List.mem_cons_of_mem _ (List.mem_append_left _ (List.mem_append_left _ (List.mem_of_getElem? (i := 11) rfl))), (List.forall_mem_cons.mpr ⟨List.mem_cons_of_mem _ (List.mem_append_left _ (List.mem_append_left _ (List.mem_of_getElem? (i := 20) rfl))), (List.forall_mem_cons.mpr ⟨List.mem_cons_of_mem _ (List.mem_append_left _ (List.mem_append_left _ (List.mem_of_getElem? (i := 21) rfl))), (List.forall_mem_cons.mpr ⟨List.mem_cons_of_mem _ (List.mem_append_left _ (List.mem_append_left _ (List.mem_of_getElem? (i := 22) rfl))), (List.forall_mem_cons.mpr ⟨List.mem_cons_of_mem _ (List.mem_append_left _ (List.mem_append_left _ (List.mem_of_getElem? (i := 23) rfl))), (List.forall_mem_cons.mpr ⟨List.mem_cons_of_mem _ (List.mem_append_left _ (List.mem_append_right _ (List.mem_append_left _ (List.mem_of_getElem? (i := 0) rfl)))), (List.forall_mem_cons.mpr ⟨List.mem_cons_of_mem _ (List.mem_append_left _ (List.mem_append_right _ (List.mem_append_left _ (List.mem_of_getElem? (i := 1) rfl)))), (List.forall_mem_cons.mpr ⟨List.mem_cons_of_mem _ (List.mem_append_left _ (List.mem_append_right _ (List.mem_append_left _ (List.mem_of_getElem? (i := 2) rfl)))), (List.forall_mem_cons.mpr ⟨List.mem_cons_of_mem _ (List.mem_append_left _ (List.mem_append_right _ (List.mem_append_left _ (List.mem_of_getElem? (i := 3) rfl)))), (List.forall_mem_cons.mpr ⟨List.mem_cons_of_mem _ (List.mem_append_left _ (List.mem_append_right _ (List.mem_append_left _ (List.mem_of_getElem? (i := 4) rfl)))), (List.forall_mem_cons.mpr ⟨List.mem_cons_of_mem _ (List.mem_append_left _ (List.mem_append_right _ (List.mem_append_left _ (List.mem_of_getElem? (i := 5) rfl)))), (List.forall_mem_cons.mpr ⟨List.mem_cons_of_mem _ (List.mem_append_left _ (List.mem_append_right _ (List.mem_append_left _ (List.mem_of_getElem? (i := 6) rfl)))), (List.forall_mem_cons.mpr ⟨List.mem_cons_of_mem _ (List.mem_append_left _ (List.mem_append_right _ (List.mem_append_left _ (List.mem_of_getElem? (i := 7) rfl)))), (List.forall_mem_cons.mpr ⟨List.mem_cons_of_mem _ (List.mem_append_left _ (List.mem_append_right _ (List.mem_append_left _ (List.mem_of_getElem? (i := 8) rfl)))), (List.forall_mem_cons.mpr ⟨List.mem_cons_of_mem _ (List.mem_append_left _ (List.mem_append_right _ (List.mem_append_left _ (List.mem_of_getElem? (i := 9) rfl)))), (List.forall_mem_cons.mpr ⟨List.mem_cons_of_mem _ (List.mem_append_left _ (List.mem_append_right _ (List.mem_append_left _ (List.mem_of_getElem? (i := 10) rfl)))), (List.forall_mem_cons.mpr ⟨List.mem_cons_of_mem _ (List.mem_append_left _ (List.mem_append_right _ (List.mem_append_left _ (List.mem_of_getElem? (i := 11) rfl)))), (fun _ h => absurd h List.not_mem_nil)⟩)⟩)⟩)⟩)⟩)⟩)⟩)⟩)⟩)⟩)⟩)⟩)⟩)⟩)⟩)⟩)⟩)⟩)⟩)⟩)⟩)⟩)⟩)⟩) (List.forall_mem_cons.mpr ⟨List.mem_cons_of_mem _ (List.mem_append_left _ (List.mem_append_right _ (List.mem_append_left _ (List.mem_of_getElem? (i := 12) rfl)))), (List.forall_mem_cons.mpr ⟨List.mem_cons_of_mem _ (List.mem_append_left _ (List.mem_append_right _ (List.mem_append_left _ (List.mem_of_getElem? (i := 13) rfl)))), (List.forall_mem_cons.mpr ⟨List.mem_cons_of_mem _ (List.mem_append_left _ (List.mem_append_right _ (List.mem_append_left _ (List.mem_of_getElem? (i := 14) rfl)))), (List.forall_mem_cons.mpr ⟨List.mem_cons_of_mem _ (List.mem_append_left _ (List.mem_append_right _ (List.mem_append_left _ (List.mem_of_getElem? (i := 15) rfl)))), (List.forall_mem_cons.mpr ⟨List.mem_cons_of_mem _ (List.mem_append_left _ (List.mem_append_right _ (List.mem_append_left _ (List.mem_of_getElem? (i := 16) rfl)))), (List.forall_mem_cons.mpr ⟨List.mem_cons_of_mem _ (List.mem_append_left _ (List.mem_append_right _ (List.mem_append_left _ (List.mem_of_getElem? (i := 17) rfl)))), (List.forall_mem_cons.mpr ⟨List.mem_cons_of_mem _ (List.mem_append_left _ (List.mem_append_right _ (List.mem_append_left _ (List.mem_of_getElem? (i := 18) rfl)))), (List.forall_mem_cons.mpr ⟨List.mem_cons_of_mem _ (List.mem_append_left _ (List.mem_append_right _ (List.mem_append_left _ (List.mem_of_getElem? (i := 19) rfl)))), (List.forall_mem_cons.mpr ⟨List.mem_cons_of_mem _ (List.mem_append_left _ (List.mem_append_right _ (List.mem_append_left _ (List.mem_of_getElem? (i := 20) rfl)))), (List.forall_mem_cons.mpr ⟨List.mem_cons_of_mem _ (List.mem_append_left _ (List.mem_append_right _ (List.mem_append_left _ (List.mem_of_getElem? (i := 21) rfl)))), (List.forall_mem_cons.mpr ⟨List.mem_cons_of_mem _ (List.mem_append_left _ (List.mem_append_right _ (List.mem_append_left _ (List.mem_of_getElem? (i := 22) rfl)))), (List.forall_mem_cons.mpr ⟨List.mem_cons_of_mem _ (List.mem_append_left _ (List.mem_append_right _ (List.mem_append_left _ (List.mem_of_getElem? (i := 23) rfl)))), (List.forall_mem_cons.mpr ⟨List.mem_cons_of_mem _ (List.mem_append_left _ (List.mem_append_right _ (List.mem_append_right _ (List.mem_of_getElem? (i := 0) rfl)))), (fun _ h => absurd h List.not_mem_nil)⟩)⟩)⟩)⟩)⟩)⟩)⟩)⟩)⟩)⟩)⟩)⟩)⟩))⟩)) (by decide +kernel)
set_option maxRecDepth 20000 in
theorem gX7_indexInList_J0_charAt_5068e : GoodIn wsX7_indexInList (wsV RX7 46 RJ0 yJ0_charAt_5068e wsJ0_charAt_5068e) := goodIn_app (goodIn_sub (List.forall_mem_cons.mpr ⟨List.mem_cons_of_mem _ (List.mem_append_left _ (List.mem_append_left _ (List.mem_of_getElem? (i := 12) rfl))), (List.forall_mem_cons.mpr ⟨List.mem_cons_of_mem _ (List.mem_append_left _ (List.mem_append_left _ (List.mem_of_getElem? (i := 13) rfl))), (List.forall_mem_cons.mpr ⟨List.mem_cons_of_mem _ (List.mem_append_left _ (List.mem_append_left _ (List.mem_of_getElem? (i := 14) rfl))), (List.forall_mem_cons.mpr ⟨List.mem_cons_of_mem _ (List.mem_append_left _ (List.mem_append_left _ (List.mem_of_getElem? (i := 3) rfl))), (fun _ h => absurd h List.not_mem_nil)⟩)⟩)⟩)⟩) (by decide +kernel)) ggX7_indexInList_J0_charAt_5068e
set_option maxRecDepth 20000 in
theorem ggX7_indexInList_X7_isSame : GoodIn wsX7_indexInList wsX7_isSame := goodIn_sub (show ∀ w ∈ wsX7_isSame, w ∈ wsX7_indexInList from (List.forall_mem_cons.mpr ⟨List.mem_cons_of_mem _ (List.mem_append_left _ (List.mem_append_right _ (List.mem_append_right _ (List.mem_of_getElem? (i := 5) rfl)))), (gw_a (gw_a (List.forall_mem_cons.mpr ⟨List.mem_cons_of_mem _ (List.mem_append_left _ (List.mem_append_right _ (List.mem_append_right _ (List.mem_of_getElem? (i := 6) rfl)))), (List.forall_mem_cons.mpr ⟨List.mem_cons_of_mem _ (List.mem_append_left _ (List.mem_append_left _ (List.mem_of_getElem? (i := 12) rfl))), (List.forall_mem_cons.mpr ⟨List.mem_cons_of_mem _ (List.mem_append_left _ (List.mem_append_left _ (List.mem_of_getElem? (i := 13) rfl))), (List.forall_mem_cons.mpr ⟨List.mem_cons_of_mem _ (List.mem_append_left _ (List.mem_append_left _ (List.mem_of_getElem? (i := 14) rfl))), (List.forall_mem_cons.mpr ⟨List.mem_cons_of_mem _ (List.mem_append_left _ (List.mem_append_left _ (List.mem_of_getElem? (i := 3) rfl))), (List.forall_mem_cons.mpr ⟨List.mem_cons_of_mem _ (List.mem_append_left _ (List.mem_append_left _ (List.mem_of_getElem? (i := 15) rfl))), (List.forall_mem_cons.mpr ⟨List.mem_cons_of_mem _ (List.mem_append_left _ (List.mem_append_left _ (List.mem_of_getElem? (i := 5) rfl))), (List.forall_mem_cons.mpr ⟨List.mem_cons_of_mem _ (List.mem_append_left _ (List.mem_append_left _ (List.mem_of_getElem? (i := 16) rfl))), (List.forall_mem_cons.mpr ⟨List.mem_cons_of_mem _ (List.mem_append_left _ (List.mem_append_left _ (List.mem_of_getElem? (i := 17) rfl))), (List.forall_mem_cons.mpr ⟨List.mem_cons_of_mem _ (List.mem_append_left _ (List.mem_append_left _ (List.mem_of_getElem? (i := 18) rfl))), (List.forall_mem_cons.mpr ⟨List.mem_cons_of_mem _ (List.mem_append_left _ (List.mem_append_left _ (List.mem_of_getElem? (i := 19) rfl))), (List.forall_mem_cons.mpr ⟨List.mem_cons_of_mem _ (List.mem_append_left _ (List.mem_append_left _ (List.mem_of_getElem? (i := 10) rfl))), (List.forall_mem_cons.mpr ⟨List.mem_cons_of_mem _ (List.mem_append_left _ (List.mem_append_left _ (List.mem_of_getElem? (i := 11) rfl))), (List.forall_mem_cons.mpr ⟨List.mem_cons_of_mem _ (List.mem_append_left _ (List.mem_append_left _ (List.mem_of_getElem? (i := 20) rfl))), (List.forall_mem_cons.mpr ⟨List.mem_cons_of_mem _ (List.mem_append_left _ (List.mem_append_left _ (List.mem_of_getElem? (i := 21) rfl))), (List.forall_mem_cons.mpr ⟨List.mem_cons_of_mem _ (List.mem_append_left _ (List.mem_append_left _ (List.mem_of_getElem? (i := 22) rfl))), (List.forall_mem_cons.mpr ⟨List.mem_cons_of_mem _ (List.mem_append_left _ (List.mem_append_left _ (List.mem_of_getElem? (i := 23) rfl))), (List.forall_mem_cons.mpr ⟨List.mem_cons_of_mem _ (List.mem_append_left _ (List.mem_append_right _ (List.mem_append_left _ (List.mem_of_getElem? (i := 0) rfl)))), (List.forall_mem_cons.mpr ⟨List.mem_cons_of_mem _ (List.mem_append_left _ (List.mem_append_right _ (List.mem_append_left _ (List.mem_of_getElem? (i := 1) rfl)))), (List.forall_mem_cons.mpr ⟨List.mem_cons_of_mem _ (List.mem_append_left _ (List.mem_append_right _ (List.mem_append_left _ (List.mem_of_getElem? (i := 2) rfl)))), (List.forall_mem_cons.mpr ⟨List.mem_cons_of_mem _ (List.mem_append_left _ (List.mem_append_right _ (List.mem_append_left _ (List.mem_of_getElem? (i := 3) rfl)))), (List.forall_mem_cons.mpr ⟨List.mem_cons_of_mem _ (List.mem_append_left _ (List.mem_append_right _ (List.mem_append_left _ (List.mem_of_getElem? (i := 4) rfl)))), (List.forall_mem_cons.mpr ⟨List.mem_cons_of_mem _ (List.mem_append_left _ (List.mem_append_right _ (List.mem_append_left _ (List.mem_of_getElem? (i := 5) rfl)))), (List.forall_mem_cons.mpr ⟨List.mem_cons_of_mem _ (List.mem_append_left _ (List.mem_append_right _ (List.mem_append_left _ (List.mem_of_getElem? (i := 6) rfl)))), (fun _ h => absurd h List.not_mem_nil)⟩)⟩)⟩)⟩)⟩)⟩)⟩)⟩)⟩)⟩)⟩)⟩)⟩)⟩)⟩)⟩)⟩)⟩)⟩)⟩)⟩)⟩)⟩)⟩) (List.forall_mem_cons.mpr ⟨List.mem_cons_of_mem _ (List.mem_append_left _ (List.mem_append_right _ (List.mem_append_left _ (List.mem_of_getElem? (i := 7) rfl)))), (List.forall_mem_cons.mpr ⟨List.mem_cons_of_mem _ (List.mem_append_left _ (List.mem_append_right _ (List.mem_append_left _ (List.mem_of_getElem? (i := 8) rfl)))), (List.forall_mem_cons.mpr ⟨List.mem_cons_of_mem _ (List.mem_append_left _ (List.mem_append_right _ (List.mem_append_left _ (List.mem_of_getElem? (i := 9) rfl)))), (List.forall_mem_cons.mpr ⟨List.mem_cons_of_mem _ (List.mem_append_left _ (List.mem_append_right _ (List.mem_append_left _ (List.mem_of_getElem? (i := 10) rfl)))), (List.forall_mem_cons.mpr ⟨List.mem_cons_of_mem _ (List.mem_append_left _ (List.mem_append_right _ (List.mem_append_left _ (List.mem_of_getElem? (i := 11) rfl)))), (List.forall_mem_cons.mpr ⟨List.mem_cons_of_mem _ (List.mem_append_left _ (List.mem_append_right _ (List.mem_append_left _ (List.mem_of_getElem? (i := 12) rfl)))), (List.forall_mem_cons.mpr ⟨List.mem_cons_of_mem _ (List.mem_append_left _ (List.mem_append_right _ (List.mem_append_left _ (List.mem_of_getElem? (i := 13) rfl)))), (List.forall_mem_cons.mpr ⟨List.mem_cons_of_mem _ (List.mem_append_left _ (List.mem_append_right _ (List.mem_append_left _ (List.mem_of_getElem? (i := 14) rfl)))), (List.forall_mem_cons.mpr ⟨List.mem_cons_of_mem _ (List.mem_append_left _ (List.mem_append_right _ (List.mem_append_left _ (List.mem_of_getElem? (i := 15) rfl)))), (List.forall_mem_cons.mpr ⟨List.mem_cons_of_mem _ (List.mem_append_left _ (List.mem_append_right _ (List.mem_append_left _ (List.mem_of_getElem? (i := 16) rfl)))), (List.forall_mem_cons.mpr ⟨List.mem_cons_of_mem _ (List.mem_append_left _ (List.mem_append_right _ (List.mem_append_left _ (List.mem_of_getElem? (i := 17) rfl)))), (List.forall_mem_cons.mpr ⟨List.mem_cons_of_mem _ (List.mem_append_left _ (List.mem_append_right _ (List.mem_append_left _ (List.mem_of_getElem? (i := 18) rfl)))), (List.forall_mem_cons.mpr ⟨List.mem_cons_of_mem _ (List.mem_append_left _ (List.mem_append_right _ (List.mem_append_left _ (List.mem_of_getElem? (i := 19) rfl)))), (List.forall_mem_cons.mpr ⟨List.mem_cons_of_mem _ (List.mem_append_left _ (List.mem_append_right _ (List.mem_append_left _ (List.mem_of_getElem? (i := 20) rfl)))), (List.forall_mem_cons.mpr ⟨List.mem_cons_of_mem _ (List.mem_append_left _ (List.mem_append_right _ (List.mem_append_left _ (List.mem_of_getElem? (i := 21) rfl)))), (List.forall_mem_cons.mpr ⟨List.mem_cons_of_mem _ (List.mem_append_left _ (List.mem_append_right _ (List.mem_append_left _ (List.mem_of_getElem? (i := 22) rfl)))), (List.forall_mem_cons.mpr ⟨List.mem_cons_of_mem _ (List.mem_append_left _ (List.mem_append_right _ (List.mem_append_left _ (List.mem_of_getElem? (i := 23) rfl)))), (List.forall_mem_cons.mpr ⟨List.mem_cons_of_mem _ (List.mem_append_left _ (List.mem_append_right _ (List.mem_append_right _ (List.mem_of_getElem? (i := 0) rfl)))), (fun _ h => absurd h List.not_mem_nil)⟩)⟩)⟩)⟩)⟩)⟩)⟩)⟩)⟩)⟩)⟩)⟩)⟩)⟩)⟩)⟩)⟩)⟩)) (fun _ h => List.mem_cons_of_mem _ (List.mem_append_right _ (h))))⟩)) (by decide +kernel)
set_option maxRecDepth 20000 in
theorem gX7_indexInList_X7_isSame : GoodIn wsX7_indexInList (wsV RX7 50 RX7 yX7_isSame wsX7_isSame) := goodIn_app (goodIn_sub (List.forall_mem_cons.mpr ⟨List.mem_cons_of_mem _ (List.mem_append_left _ (List.mem_append_right _ (List.mem_append_right _ (List.mem_of_getElem? (i := 1) rfl)))), (List.forall_mem_cons.mpr ⟨List.mem_cons_of_mem _ (List.mem_append_left _ (List.mem_append_right _ (List.mem_append_right _ (List.mem_of_getElem? (i := 2) rfl)))), (List.forall_mem_cons.mpr ⟨List.mem_cons_of_mem _ (List.mem_append_left _ (List.mem_append_right _ (List.mem_append_right _ (List.mem_of_getElem? (i := 3) rfl)))), (List.forall_mem_cons.mpr ⟨List.mem_cons_of_mem _ (List.mem_append_left _ (List.mem_append_right _ (List.mem_append_right _ (List.mem_of_getElem? (i := 4) rfl)))), (fun _ h => absurd h List.not_mem_nil)⟩)⟩)⟩)⟩) (by decide +kernel)) ggX7_indexInList_X7_isSame
theorem dX7_indexInList_0 : decode cX7_indexInList 0 = .ok (.iconst 0, 1) := by decide +kernel
theorem dX7_indexInList_1 : decode cX7_indexInList 1 = .ok (.istore 4, 2) := by decide +kernel
theorem dX7_indexInList_3 : decode cX7_indexInList 3 = .ok (.iconst 0, 1) := by decide +kernel
theorem dX7_indexInList_4 : decode cX7_indexInList 4 = .ok (.istore 5, 2) := by decide +kernel
theorem dX7_indexInList_6 : decode cX7_indexInList 6 = .ok (.iconst 0, 1) := by decide +kernel
theorem dX7_indexInList_7 : decode cX7_indexInList 7 = .ok (.istore 6, 2) := by decide +kernel
theorem dX7_indexInList_9 : decode cX7_indexInList 9 = .ok (.iload 6, 2) := by decide +kernel
theorem dX7_indexInList_11 : decode cX7_indexInList 11 = .ok (.aload_n 1, 1) := by decide +kernel
theorem dX7_indexInList_12 : decode cX7_indexInList 12 = .ok (.invokevirtual 42, 3) := by decide +kernel
theorem dX7_indexInList_15 : decode cX7_indexInList 15 = .ok (.if_icmp .gt 62, 3) := by decide +kernel
theorem dX7_indexInList_18 : decode cX7_indexInList 18 = .ok (.iload 6, 2) := by decide +kernel
theorem dX7_indexInList_20 : decode cX7_indexInList 20 = .ok (.aload_n 1, 1) := by decide +kernel
theorem dX7_indexInList_21 : decode cX7_indexInList 21 = .ok (.invokevirtual 42, 3) := by decide +kernel
theorem dX7_indexInList_24 : decode cX7_indexInList 24 = .ok (.if_icmp .eq 14, 3) := by decide +kernel
theorem dX7_indexInList_27 : decode cX7_indexInList 27 = .ok (.aload_n 1, 1) := by decide +kernel
theorem dX7_indexInList_28 : decode cX7_indexInList 28 = .ok (.iload 6, 2) := by decide +kernel
theorem dX7_indexInList_30 : decode cX7_indexInList 30 = .ok (.invokevirtual 46, 3) := by decide +kernel
theorem dX7_indexInList_33 : decode cX7_indexInList 33 = .ok (.bipush 32, 2) := by decide +kernel
theorem dX7_indexInList_35 : decode cX7_indexInList 35 = .ok (.if_icmp .ne 36, 3) := by decide +kernel
theorem dX7_indexInList_38 : decode cX7_indexInList 38 = .ok (.iload 6, 2) := by decide +kernel
theorem dX7_indexInList_40 : decode cX7_indexInList 40 = .ok (.iload 5, 2) := by decide +kernel
theorem dX7_indexInList_42 : decode cX7_indexInList 42 = .ok (.isub, 1) := by decide +kernel
theorem dX7_indexInList_43 : decode cX7_indexInList 43 = .ok (.iload_n 3, 1) := by decide +kernel
theorem dX7_indexInList_44 : decode cX7_indexInList 44 = .ok (.if_icmp .ne 18, 3) := by decide +kernel
theorem dX7_indexInList_47 : decode cX7_indexInList 47 = .ok (.aload_n 0, 1) := by decide +kernel
theorem dX7_indexInList_48 : decode cX7_indexInList 48 = .ok (.aload_n 1, 1) := by decide +kernel
theorem dX7_indexInList_49 : decode cX7_indexInList 49 = .ok (.iload 5, 2) := by decide +kernel
theorem dX7_indexInList_51 : decode cX7_indexInList 51 = .ok (.iload_n 2, 1) := by decide +kernel
theorem dX7_indexInList_52 : decode cX7_indexInList 52 = .ok (.iload_n 3, 1) := by decide +kernel
theorem dX7_indexInList_53 : decode cX7_indexInList 53 = .ok (.invokevirtual 50, 3) := by decide +kernel
theorem dX7_indexInList_56 : decode cX7_indexInList 56 = .ok (.ifCond .eq 6, 3) := by decide +kernel
theorem dX7_indexInList_59 : decode cX7_indexInList 59 = .ok (.iload 4, 2) := by decide +kernel
theorem dX7_indexInList_61 : decode cX7_indexInList 61 = .ok (.ireturn, 1) := by decide +kernel
theorem dX7_indexInList_62 : decode cX7_indexInList 62 = .ok (.iinc 4 1, 3) := by decide +kernel
theorem dX7_indexInList_65 : decode cX7_indexInList 65 = .ok (.iload 6, 2) := by decide +kernel
theorem dX7_indexInList_67 : decode cX7_indexInList 67 = .ok (.iconst 1, 1) := by decide +kernel
theorem dX7_indexInList_68 : decode cX7_indexInList 68 = .ok (.iadd, 1) := by decide +kernel
theorem dX7_indexInList_69 : decode cX7_indexInList 69 = .ok (.istore 5, 2) := by decide +kernel
theorem dX7_indexInList_71 : decode cX7_indexInList 71 = .ok (.iinc 6 1, 3) := by decide +kernel
theorem dX7_indexInList_74 : decode cX7_indexInList 74 = .ok (.goto (-65), 3) := by decide +kernel
theorem dX7_indexInList_77 : decode cX7_indexInList 77 = .ok (.iconst (-1), 1) := by decide +kernel
theorem dX7_indexInList_78 : decode cX7_indexInList 78 = .ok (.ireturn, 1) := by decide +kernel
set_option maxRecDepth 20000 in
theorem ggX7_isSame_J0_charAt_5068e : GoodIn wsX7_isSame wsJ0_charAt_5068e := goodIn_sub (show ∀ w ∈ wsJ0_charAt_5068e, w ∈ wsX7_isSame from (List.forall_mem_cons.mpr ⟨List.mem_cons_of_mem _ (List.mem_append_left _ (List.mem_append_left _ (List.mem_of_getElem? (i := 5) rfl))), (gw_a (List.forall_mem_cons.mpr ⟨List.mem_cons_of_mem _ (List.mem_append_left _ (List.mem_append_left _ (List.mem_of_getElem? (i := 6) rfl))), (List.forall_mem_cons.mpr ⟨List.mem_cons_of_mem _ (List.mem_append_left _ (List.mem_append_left _ (List.mem_of_getElem? (i := 7) rfl))), (List.forall_mem_cons.mpr ⟨List.mem_cons_of_mem _ (List.mem_append_left _ (List.mem_append_left _ (List.mem_of_getElem? (i := 8) rfl))), (List.forall_mem_cons.mpr ⟨List.mem_cons_of_mem _ (List.mem_append_left _ (List.mem_append_left _ (List.mem_of_getElem? (i := 9) rfl))), (List.forall_mem_cons.mpr ⟨List.mem_cons_of_mem _ (List.mem_append_left _ (List.mem_append_left _ (List.mem_of_getElem? (i := 4) rfl))), (List.forall_mem_cons.mpr ⟨List.mem_cons_of_mem _ (List.mem_append_left _ (List.mem_append_left _ (List.mem_of_getElem? (i := 10) rfl))), (List.forall_mem_cons.mpr ⟨List.mem_cons_of_mem _ (List.mem_append_left _ (List.mem_append_left _ (List.mem_of_getElem? (i := 11) rfl))), (List.forall_mem_cons.mpr ⟨List.mem_cons_of_mem _ (List.mem_append_left _ (List.mem_append_left _ (List.mem_of_getElem? (i := 12) rfl))), (List.forall_mem_cons.mpr ⟨List.mem_cons_of_mem _ (List.mem_append_left _ (List.mem_append_left _ (List.mem_of_getElem? (i := 13) rfl))), (List.forall_mem_cons.mpr ⟨List.mem_cons_of_mem _ (List.mem_append_left _ (List.mem_append_left _ (List.mem_of_getElem? (i := 14) rfl))), (List.forall_mem_cons.mpr ⟨List.mem_cons_of_mem _ (List.mem_append_left _ (List.mem_append_left _ (List.mem_of_getElem? (i := 15) rfl))), (List.forall_mem_cons.mpr ⟨List.mem_cons_of_mem _ (List.mem_append_left _ (List.mem_append_left _ (List.mem_of_getElem? (i := 16) rfl))), (List.forall_mem_cons.mpr ⟨List.mem_cons_of_mem _ (List.mem_append_left _ (List.mem_append_left _ (List.mem_of_getElem? (i := 17) rfl))), (List.forall_mem_cons.mpr ⟨List.mem_cons_of_mem _ (List.mem_append_left _ (List.mem_append_left _ (List.mem_of_getElem? (i := 18) rfl))), (List.forall_mem_cons.mpr ⟨List.mem_cons_of_mem _ (List.mem_append_left _ (List.mem_append_left _ (List.mem_of_getElem? (i := 19) rfl))), (List.forall_mem_cons.mpr ⟨List.mem_cons_of_mem _ (List.mem_append_left _ (List.mem_append_left _ (List.mem_of_getElem? (i := 20) rfl))), (List.forall_mem_cons.mpr ⟨List.mem_cons_of_mem _ (List.mem_append_left _ (List.mem_append_left _ (List.mem_of_getElem? (i := 21) rfl))), (List.forall_mem_cons.mpr ⟨List.mem_cons_of_mem _ (List.mem_append_left _ (List.mem_append_left _ (List.mem_of_getElem? (i := 22) rfl))), (List.forall_mem_cons.mpr ⟨List.mem_cons_of_mem _ (List.mem_append_left _ (List.mem_append_left _ (List.mem_of_getElem? (i := 23) rfl))), (List.forall_mem_cons.mpr ⟨List.mem_cons_of_mem _ (List.mem_append_left _ (List.mem_append_right _ (List.mem_of_getElem? (i := 0) rfl))), (List.forall_mem_cons.mpr ⟨List.mem_cons_of_mem _ (List.mem_append_left _ (List.mem_append_right _ (List.mem_of_getElem? (i := 1) rfl))), (List.forall_mem_cons.mpr ⟨List.mem_cons_of_mem _ (List.mem_append_left _ (List.mem_append_right _ (List.mem_of_getElem? (i := 2) rfl))), (List.forall_mem_cons.mpr ⟨List.mem_cons_of_mem _ (List.mem_append_left _ (List.mem_append_right _ (List.mem_of_getElem? (i := 3) rfl))), (List.forall_mem_cons.mpr ⟨List.mem_cons_of_mem _ (List.mem_append_left _ (List.mem_append_right _ (List.mem_of_getElem? (i := 4) rfl))), (fun _ h => absurd h List.not_mem_nil)⟩)⟩)⟩)⟩)⟩)⟩)⟩)⟩)⟩)⟩)⟩)⟩)⟩)⟩)⟩)⟩)⟩)⟩)⟩)⟩)⟩)⟩)⟩)⟩) (List.forall_mem_cons.mpr ⟨List.mem_cons_of_mem _ (List.mem_append_left _ (List.mem_append_right _ (List.mem_of_getElem? (i := 5) rfl))), (List.forall_mem_cons.mpr ⟨List.mem_cons_of_mem _ (List.mem_append_left _ (List.mem_append_right _ (List.mem_of_getElem? (i := 6) rfl))), (List.forall_mem_cons.mpr ⟨List.mem_cons_of_mem _ (List.mem_append_left _ (List.mem_append_right _ (List.mem_of_getElem? (i := 7) rfl))), (List.forall_mem_cons.mpr ⟨List.mem_cons_of_mem _ (List.mem_append_left _ (List.mem_append_right _ (List.mem_of_getElem? (i := 8) rfl))), (List.forall_mem_cons.mpr ⟨List.mem_cons_of_mem _ (List.mem_append_left _ (List.mem_append_right _ (List.mem_of_getElem? (i := 9) rfl))), (List.forall_mem_cons.mpr ⟨List.mem_cons_of_mem _ (List.mem_append_left _ (List.mem_append_right _ (List.mem_of_getElem? (i := 10) rfl))), (List.forall_mem_cons.mpr ⟨List.mem_cons_of_mem _ (List.mem_append_left _ (List.mem_append_right _ (List.mem_of_getElem? (i := 11) rfl))), (List.forall_mem_cons.mpr ⟨List.mem_cons_of_mem _ (List.mem_append_left _ (List.mem_append_right _ (List.mem_of_getElem? (i := 12) rfl))), (List.forall_mem_cons.mpr ⟨List.mem_cons_of_mem _ (List.mem_append_left _ (List.mem_append_right _ (List.mem_of_getElem? (i := 13) rfl))), (List.forall_mem_cons.mpr ⟨List.mem_cons_of_mem _ (List.mem_append_left _ (List.mem_append_right _ (List.mem_of_getElem? (i := 14) rfl))), (List.forall_mem_cons.mpr ⟨List.mem_cons_of_mem _ (List.mem_append_left _ (List.mem_append_right _ (List.mem_of_getElem? (i := 15) rfl))), (List.forall_mem_cons.mpr ⟨List.mem_cons_of_mem _ (List.mem_append_left _ (List.mem_append_right _ (List.mem_of_getElem? (i := 16) rfl))), (List.forall_mem_cons.mpr ⟨List.mem_cons_of_mem _ (List.mem_append_left _ (List.mem_append_right _ (List.mem_of_getElem? (i := 17) rfl))), (fun _ h => absurd h List.not_mem_nil)⟩)⟩)⟩)⟩)⟩)⟩)⟩)⟩)⟩)⟩)⟩)⟩)⟩))⟩)) (by decide +kernel)
set_option maxRecDepth 20000 in
theorem gX7_isSame_J0_charAt_5068e : GoodIn wsX7_isSame (wsV RX7 46 RJ0 yJ0_charAt_5068e wsJ0_charAt_5068e) := goodIn_app (goodIn_sub (List.forall_mem_cons.mpr ⟨List.mem_cons_of_mem _ (List.mem_append_left _ (List.mem_append_left _ (List.mem_of_getElem? (i := 1) rfl))), (List.forall_mem_cons.mpr ⟨List.mem_cons_of_mem _ (List.mem_append_left _ (List.mem_append_left _ (List.mem_of_getElem? (i := 2) rfl))), (List.forall_mem_cons.mpr ⟨List.mem_cons_of_mem _ (List.mem_append_left _ (List.mem_append_left _ (List.mem_of_getElem? (i := 3) rfl))), (List.forall_mem_cons.mpr ⟨List.mem_cons_of_mem _ (List.mem_append_left _ (List.mem_append_left _ (List.mem_of_getElem? (i := 4) rfl))), (fun _ h => absurd h List.not_mem_nil)⟩)⟩)⟩)⟩) (by decide +kernel)) ggX7_isSame_J0_charAt_5068e
theorem dX7_isSame_0 : decode cX7_isSame 0 = .ok (.iconst 0, 1) := by decide +kernel
theorem dX7_isSame_1 : decode cX7_isSame 1 = .ok (.istore 5, 2) := by decide +kernel
theorem dX7_isSame_3 : decode cX7_isSame 3 = .ok (.iload 5, 2) := by decide +kernel
theorem dX7_isSame_5 : decode cX7_isSame 5 = .ok (.iload 4, 2) := by decide +kernel
theorem dX7_isSame_7 : decode cX7_isSame 7 = .ok (.if_icmp .ge 31, 3) := by decide +kernel
theorem dX7_isSame_10 : decode cX7_isSame 10 = .ok (.aload_n 1, 1) := by decide +kernel
theorem dX7_isSame_11 : decode cX7_isSame 11 = .ok (.iload_n 2, 1) := by decide +kernel
theorem dX7_isSame_12 : decode cX7_isSame 12 = .ok (.iload 5, 2) := by decide +kernel
theorem dX7_isSame_14 : decode cX7_isSame 14 = .ok (.iadd, 1) := by decide +kernel
theorem dX7_isSame_15 : decode cX7_isSame 15 = .ok (.invokevirtual 46, 3) := by decide +kernel
theorem dX7_isSame_18 : decode cX7_isSame 18 = .ok (.aload_n 0, 1) := by decide +kernel
theorem dX7_isSame_19 : decode cX7_isSame 19 = .ok (.getfield 9, 3) := by decide +kernel
theorem dX7_isSame_22 : decode cX7_isSame 22 = .ok (.iload_n 3, 1) := by decide +kernel
theorem dX7_isSame_23 : decode cX7_isSame 23 = .ok (.iload 5, 2) := by decide +kernel
theorem dX7_isSame_25 : decode cX7_isSame 25 = .ok (.iadd, 1) := by decide +kernel
theorem dX7_isSame_26 : decode cX7_isSame 26 = .ok (.baload, 1) := by decide +kernel
theorem dX7_isSame_27 : decode cX7_isSame 27 = .ok (.if_icmp .eq 5, 3) := by decide +kernel
theorem dX7_isSame_30 : decode cX7_isSame 30 = .ok (.iconst 0, 1) := by decide +kernel
theorem dX7_isSame_31 : decode cX7_isSame 31 = .ok (.ireturn, 1) := by decide +kernel
theorem dX7_isSame_32 : decode cX7_isSame 32 = .ok (.iinc 5 1, 3) := by decide +kernel
theorem dX7_isSame_35 : decode cX7_isSame 35 = .ok (.goto (-32), 3) := by decide +kernel
theorem dX7_isSame_38 : decode cX7_isSame 38 = .ok (.iconst 1, 1) := by decide +kernel
theorem dX7_isSame_39 : decode cX7_isSame 39 = .ok (.ireturn, 1) := by decide +kernel
set_option maxRecDepth 20000 in
theorem ggX8_init_X1_init : GoodIn wsX8_init wsX1_init := goodIn_sub (show ∀ w ∈ wsX1_init, w ∈ wsX8_init from (List.forall_mem_cons.mpr ⟨List.mem_cons_of_mem _ (List.mem_append_left _ (List.mem_append_left _ (List.mem_of_getElem? (i := 11) rfl))), (gw_a (List.forall_mem_cons.mpr ⟨List.mem_cons_of_mem _ (List.mem_append_left _ (List.mem_append_left _ (List.mem_of_getElem? (i := 12) rfl))), (List.forall_mem_cons.mpr ⟨List.mem_cons_of_mem _ (List.mem_append_left _ (List.mem_append_left _ (List.mem_of_getElem? (i := 1) rfl))), (List.forall_mem_cons.mpr ⟨List.mem_cons_of_mem _ (List.mem_append_left _ (List.mem_append_left _ (List.mem_of_getElem? (i := 2) rfl))), (List.forall_mem_cons.mpr ⟨List.mem_cons_of_mem _ (List.mem_append_left _ (List.mem_append_left _ (List.mem_of_getElem? (i := 13) rfl))), (List.forall_mem_cons.mpr ⟨List.mem_cons_of_mem _ (List.mem_append_left _ (List.mem_append_left _ (List.mem_of_getElem? (i := 14) rfl))), (List.forall_mem_cons.mpr ⟨List.mem_cons_of_mem _ (List.mem_append_left _ (List.mem_append_left _ (List.mem_of_getElem? (i := 15) rfl))), (List.forall_mem_cons.mpr ⟨List.mem_cons_of_mem _ (List.mem_append_left _ (List.mem_append_left _ (List.mem_of_getElem? (i := 16) rfl))), (List.forall_mem_cons.mpr ⟨List.mem_cons_of_mem _ (List.mem_append_left _ (List.mem_append_left _ (List.mem_of_getElem? (i := 17) rfl))), (List.forall_mem_cons.mpr ⟨List.mem_cons_of_mem _ (List.mem_append_left _ (List.mem_append_left _ (List.mem_of_getElem? (i := 18) rfl))), (List.forall_mem_cons.mpr ⟨List.mem_cons_of_mem _ (List.mem_append_left _ (List.mem_append_left _ (List.mem_of_getElem? (i := 19) rfl))), (List.forall_mem_cons.mpr ⟨List.mem_cons_of_mem _ (List.mem_append_left _ (List.mem_append_left _ (List.mem_of_getElem? (i := 20) rfl))), (fun _ h => absurd h List.not_mem_nil)⟩)⟩)⟩)⟩)⟩)⟩)⟩)⟩)⟩)⟩)⟩) (fun _ h => List.mem_cons_of_mem _ (List.mem_append_right _ (h))))⟩)) (by decide +kernel)
set_option maxRecDepth 20000 in
theorem gX8_init_X1_init_n23 : GoodIn wsX8_init (wsX1_init) := ggX8_init_X1_init
theorem dX8_init_0 : decode cX8_init 0 = .ok (.aload_n 0, 1) := by decide +kernel
theorem dX8_init_1 : decode cX8_init 1 = .ok (.invokespecial 3, 3) := by decide +kernel
theorem dX8_init_4 : decode cX8_init 4 = .ok (.aload_n 0, 1) := by decide +kernel
theorem dX8_init_5 : decode cX8_init 5 = .ok (.iconst 0, 1) := by decide +kernel
theorem dX8_init_6 : decode cX8_init 6 = .ok (.putfield 9, 3) := by decide +kernel
theorem dX8_init_9 : decode cX8_init 9 = .ok (.aload_n 0, 1) := by decide +kernel
theorem dX8_init_10 : decode cX8_init 10 = .ok (.sipush 1000, 3) := by decide +kernel
theorem dX8_init_13 : decode cX8_init 13 = .ok (.putfield 15, 3) := by decide +kernel
theorem dX8_init_16 : decode cX8_init 16 = .ok (.aload_n 0, 1) := by decide +kernel
theorem dX8_init_17 : decode cX8_init 17 = .ok (.iconst 0, 1) := by decide +kernel
theorem dX8_init_18 : decode cX8_init 18 = .ok (.putfield 18, 3) := by decide +kernel
theorem dX8_init_21 : decode cX8_init 21 = .ok (.aload_n 0, 1) := by decide +kernel
theorem dX8_init_22 : decode cX8_init 22 = .ok (.new 21, 3) := by decide +kernel
theorem dX8_init_25 : decode cX8_init 25 = .ok (.dup, 1) := by decide +kernel
theorem dX8_init_26 : decode cX8_init 26 = .ok (.invokespecial 23, 3) := by decide +kernel
theorem dX8_init_29 : decode cX8_init 29 = .ok (.putfield 24, 3) := by decide +kernel
theorem dX8_init_32 : decode cX8_init 32 = .ok (.return_, 1) := by decide +kernel
set_option maxRecDepth 20000 in
theorem ggX9_init_J7_fill_53178 : GoodIn wsX9_init wsJ7_fill_53178 := goodIn_sub (show ∀ w ∈ wsJ7_fill_53178, w ∈ wsX9_init from (List.forall_mem_cons.mpr ⟨List.mem_cons_of_mem _ (List.mem_append_left _ (List.mem_of_getElem? (i := 13) rfl)), (fun _ h => absurd h List.not_mem_nil)⟩)) (by decide +kernel)
set_option maxRecDepth 20000 in
theorem gX9_init_J7_fill_53178 : GoodIn wsX9_init (va_wsS RX9 26 yJ7_fill_53178 wsJ7_fill_53178) := goodIn_app (goodIn_sub (List.forall_mem_cons.mpr ⟨List.mem_cons_of_mem _ (List.mem_append_left _ (List.mem_of_getElem? (i := 10) rfl)), (List.forall_mem_cons.mpr ⟨List.mem_cons_of_mem _ (List.mem_append_left _ (List.mem_of_getElem? (i := 11) rfl)), (List.forall_mem_cons.mpr ⟨List.mem_cons_of_mem _ (List.mem_append_left _ (List.mem_of_getElem? (i := 12) rfl)), (fun _ h => absurd h List.not_mem_nil)⟩)⟩)⟩) (by decide +kernel)) ggX9_init_J7_fill_53178
theorem dX9_init_0 : decode cX9_init 0 = .ok (.aload_n 0, 1) := by decide +kernel
theorem dX9_init_1 : decode cX9_init 1 = .ok (.invokespecial 3, 3) := by decide +kernel
theorem dX9_init_4 : decode cX9_init 4 = .ok (.aload_n 0, 1) := by decide +kernel
theorem dX9_init_5 : decode cX9_init 5 = .ok (.sipush 144, 3) := by decide +kernel
theorem dX9_init_8 : decode cX9_init 8 = .ok (.newarray .int, 2) := by decide +kernel
theorem dX9_init_10 : decode cX9_init 10 = .ok (.putfield 9, 3) := by decide +kernel
theorem dX9_init_13 : decode cX9_init 13 = .ok (.aload_n 0, 1) := by decide +kernel
theorem dX9_init_14 : decode cX9_init 14 = .ok (.sipush 144, 3) := by decide +kernel
theorem dX9_init_17 : decode cX9_init 17 = .ok (.newarray .int, 2) := by decide +kernel
theorem dX9_init_19 : decode cX9_init 19 = .ok (.putfield 15, 3) := by decide +kernel
theorem dX9_init_22 : decode cX9_init 22 = .ok (.aload_n 0, 1) := by decide +kernel
theorem dX9_init_23 : decode cX9_init 23 = .ok (.bipush 12, 2) := by decide +kernel
theorem dX9_init_25 : decode cX9_init 25 = .ok (.newarray .int, 2) := by decide +kernel
theorem dX9_init_27 : decode cX9_init 27 = .ok (.putfield 18, 3) := by decide +kernel
theorem dX9_init_30 : decode cX9_init 30 = .ok (.aload_n 0, 1) := by decide +kernel
theorem dX9_init_31 : decode cX9_init 31 = .ok (.bipush 12, 2) := by decide +kernel
theorem dX9_init_33 : decode cX9_init 33 = .ok (.newarray .boolean, 2) := by decide +kernel
theorem dX9_init_35 : decode cX9_init 35 = .ok (.putfield 21, 3) := by decide +kernel
theorem dX9_init_38 : decode cX9_init 38 = .ok (.aload_n 0, 1) := by decide +kernel
theorem dX9_init_39 : decode cX9_init 39 = .ok (.getfield 9, 3) := by decide +kernel
theorem dX9_init_42 : decode cX9_init 42 = .ok (.ldc 25, 2) := by decide +kernel
theorem dX9_init_44 : decode cX9_init 44 = .ok (.invokestatic 26, 3) := by decide +kernel
theorem dX9_init_47 : decode cX9_init 47 = .ok (.aload_n 0, 1) := by decide +kernel
theorem dX9_init_48 : decode cX9_init 48 = .ok (.getfield 15, 3) := by decide +kernel
theorem dX9_init_51 : decode cX9_init 51 = .ok (.ldc 25, 2) := by decide +kernel
theorem dX9_init_53 : decode cX9_init 53 = .ok (.invokestatic 26, 3) := by decide +kernel
theorem dX9_init_56 : decode cX9_init 56 = .ok (.return_, 1) := by decide +kernel
theorem dX9_join_0 : decode cX9_join 0 = .ok (.iload_n 3, 1) := by decide +kernel
theorem dX9_join_1 : decode cX9_join 1 = .ok (.ifCond .eq 10, 3) := by decide +kernel
theorem dX9_join_4 : decode cX9_join 4 = .ok (.aload_n 0, 1) := by decide +kernel
theorem dX9_join_5 : decode cX9_join 5 = .ok (.getfield 15, 3) := by decide +kernel
theorem dX9_join_8 : decode cX9_join 8 = .ok (.goto 7, 3) := by decide +kernel
theorem dX9_join_11 : decode cX9_join 11 = .ok (.aload_n 0, 1) := by decide +kernel
theorem dX9_join_12 : decode cX9_join 12 = .ok (.getfield 9, 3) := by decide +kernel
theorem dX9_join_15 : decode cX9_join 15 = .ok (.astore 5, 2) := by decide +kernel
theorem dX9_join_17 : decode cX9_join 17 = .ok (.aload 5, 2) := by decide +kernel
theorem dX9_join_19 : decode cX9_join 19 = .ok (.iload_n 1, 1) := by decide +kernel
theorem dX9_join_20 : decode cX9_join 20 = .ok (.bipush 12, 2) := by decide +kernel
theorem dX9_join_22 : decode cX9_join 22 = .ok (.imul, 1) := by decide +kernel
theorem dX9_join_23 : decode cX9_join 23 = .ok (.iload_n 2, 1) := by decide +kernel
theorem dX9_join_24 : decode cX9_join 24 = .ok (.iadd, 1) := by decide +kernel
theorem dX9_join_25 : decode cX9_join 25 = .ok (.iload 4, 2) := by decide +kernel
theorem dX9_join_27 : decode cX9_join 27 = .ok (.iastore, 1) := by decide +kernel
theorem dX9_join_28 : decode cX9_join 28 = .ok (.aload 5, 2) := by decide +kernel
theorem dX9_join_30 : decode cX9_join 30 = .ok (.iload_n 2, 1) := by decide +kernel
theorem dX9_join_31 : decode cX9_join 31 = .ok (.bipush 12, 2) := by decide +kernel
theorem dX9_join_33 : decode cX9_join 33 = .ok (.imul, 1) := by decide +kernel
theorem dX9_join_34 : decode cX9_join 34 = .ok (.iload_n 1, 1) := by decide +kernel
theorem dX9_join_35 : decode cX9_join 35 = .ok (.iadd, 1) := by decide +kernel
theorem dX9_join_36 : decode cX9_join 36 = .ok (.iload 4, 2) := by decide +kernel
theorem dX9_join_38 : decode cX9_join 38 = .ok (.iastore, 1) := by decide +kernel
theorem dX9_join_39 : decode cX9_join 39 = .ok (.return_, 1) := by decide +kernel
set_option maxRecDepth 20000 in
theorem ggX9_letterDays_X9_quickest : GoodIn wsX9_letterDays wsX9_quickest := goodIn_sub (show ∀ w ∈ wsX9_quickest, w ∈ wsX9_letterDays from (List.forall_mem_cons.mpr ⟨List.mem_cons_of_mem _ (List.mem_append_left _ (List.mem_of_getElem? (i := 4) rfl)), (gw_a (List.forall_mem_cons.mpr ⟨List.mem_cons_of_mem _ (List.mem_append_left _ (List.mem_of_getElem? (i := 5) rfl)), (List.forall_mem_cons.mpr ⟨List.mem_cons_of_mem _ (List.mem_append_left _ (List.mem_of_getElem? (i := 6) rfl)), (List.forall_mem_cons.mpr ⟨List.mem_cons_of_mem _ (List.mem_append_left _ (List.mem_of_getElem? (i := 7) rfl)), (List.forall_mem_cons.mpr ⟨List.mem_cons_of_mem _ (List.mem_append_left _ (List.mem_of_getElem? (i := 8) rfl)), (List.forall_mem_cons.mpr ⟨List.mem_cons_of_mem _ (List.mem_append_left _ (List.mem_of_getElem? (i := 9) rfl)), (List.forall_mem_cons.mpr ⟨List.mem_cons_of_mem _ (List.mem_append_left _ (List.mem_of_getElem? (i := 10) rfl)), (List.forall_mem_cons.mpr ⟨List.mem_cons_of_mem _ (List.mem_append_left _ (List.mem_of_getElem? (i := 11) rfl)), (List.forall_mem_cons.mpr ⟨List.mem_cons_of_mem _ (List.mem_append_left _ (List.mem_of_getElem? (i := 12) rfl)), (List.forall_mem_cons.mpr ⟨List.mem_cons_of_mem _ (List.mem_append_left _ (List.mem_of_getElem? (i := 13) rfl)), (List.forall_mem_cons.mpr ⟨List.mem_cons_of_mem _ (List.mem_append_left _ (List.mem_of_getElem? (i := 14) rfl)), (List.forall_mem_cons.mpr ⟨List.mem_cons_of_mem _ (List.mem_append_left _ (List.mem_of_getElem? (i := 3) rfl)), (List.forall_mem_cons.mpr ⟨List.mem_cons_of_mem _ (List.mem_append_left _ (List.mem_of_getElem? (i := 15) rfl)), (List.forall_mem_cons.mpr ⟨List.mem_cons_of_mem _ (List.mem_append_left _ (List.mem_of_getElem? (i := 16) rfl)), (List.forall_mem_cons.mpr ⟨List.mem_cons_of_mem _ (List.mem_append_left _ (List.mem_of_getElem? (i := 17) rfl)), (List.forall_mem_cons.mpr ⟨List.mem_cons_of_mem _ (List.mem_append_left _ (List.mem_of_getElem? (i := 18) rfl)), (List.forall_mem_cons.mpr ⟨List.mem_cons_of_mem _ (List.mem_append_left _ (List.mem_of_getElem? (i := 19) rfl)), (List.forall_mem_cons.mpr ⟨List.mem_cons_of_mem _ (List.mem_append_left _ (List.mem_of_getElem? (i := 20) rfl)), (List.forall_mem_cons.mpr ⟨List.mem_cons_of_mem _ (List.mem_append_left _ (List.mem_of_getElem? (i := 21) rfl)), (fun _ h => absurd h List.not_mem_nil)⟩)⟩)⟩)⟩)⟩)⟩)⟩)⟩)⟩)⟩)⟩)⟩)⟩)⟩)⟩)⟩)⟩)⟩) (fun _ h => List.mem_cons_of_mem _ (List.mem_append_right _ (h))))⟩)) (by decide +kernel)
set_option maxRecDepth 20000 in
theorem gX9_letterDays_X9_quickest : GoodIn wsX9_letterDays (wsV RX9 32 RX9 yX9_quickest wsX9_quickest) := goodIn_app (goodIn_sub (List.forall_mem_cons.mpr ⟨List.mem_cons_of_mem _ (List.mem_append_left _ (List.mem_of_getElem? (i := 0) rfl)), (List.forall_mem_cons.mpr ⟨List.mem_cons_of_mem _ (List.mem_append_left _ (List.mem_of_getElem? (i := 1) rfl)), (List.forall_mem_cons.mpr ⟨List.mem_cons_of_mem _ (List.mem_append_left _ (List.mem_of_getElem? (i := 2) rfl)), (List.forall_mem_cons.mpr ⟨List.mem_cons_of_mem _ (List.mem_append_left _ (List.mem_of_getElem? (i := 3) rfl)), (fun _ h => absurd h List.not_mem_nil)⟩)⟩)⟩)⟩) (by decide +kernel)) ggX9_letterDays_X9_quickest
theorem dX9_letterDays_0 : decode cX9_letterDays 0 = .ok (.aload_n 0, 1) := by decide +kernel
theorem dX9_letterDays_1 : decode cX9_letterDays 1 = .ok (.iload_n 1, 1) := by decide +kernel
theorem dX9_letterDays_2 : decode cX9_letterDays 2 = .ok (.iconst 0, 1) := by decide +kernel
theorem dX9_letterDays_3 : decode cX9_letterDays 3 = .ok (.invokevirtual 32, 3) := by decide +kernel
theorem dX9_letterDays_6 : decode cX9_letterDays 6 = .ok (.areturn, 1) := by decide +kernel
set_option maxRecDepth 20000 in
theorem ggX9_newsDays_X9_quickest : GoodIn wsX9_newsDays wsX9_quickest := goodIn_sub (show ∀ w ∈ wsX9_quickest, w ∈ wsX9_newsDays from (List.forall_mem_cons.mpr ⟨List.mem_cons_of_mem _ (List.mem_append_left _ (List.mem_of_getElem? (i := 4) rfl)), (gw_a (List.forall_mem_cons.mpr ⟨List.mem_cons_of_mem _ (List.mem_append_left _ (List.mem_of_getElem? (i := 5) rfl)), (List.forall_mem_cons.mpr ⟨List.mem_cons_of_mem _ (List.mem_append_left _ (List.mem_of_getElem? (i := 6) rfl)), (List.forall_mem_cons.mpr ⟨List.mem_cons_of_mem _ (List.mem_append_left _ (List.mem_of_getElem? (i := 7) rfl)), (List.forall_mem_cons.mpr ⟨List.mem_cons_of_mem _ (List.mem_append_left _ (List.mem_of_getElem? (i := 8) rfl)), (List.forall_mem_cons.mpr ⟨List.mem_cons_of_mem _ (List.mem_append_left _ (List.mem_of_getElem? (i := 9) rfl)), (List.forall_mem_cons.mpr ⟨List.mem_cons_of_mem _ (List.mem_append_left _ (List.mem_of_getElem? (i := 10) rfl)), (List.forall_mem_cons.mpr ⟨List.mem_cons_of_mem _ (List.mem_append_left _ (List.mem_of_getElem? (i := 11) rfl)), (List.forall_mem_cons.mpr ⟨List.mem_cons_of_mem _ (List.mem_append_left _ (List.mem_of_getElem? (i := 12) rfl)), (List.forall_mem_cons.mpr ⟨List.mem_cons_of_mem _ (List.mem_append_left _ (List.mem_of_getElem? (i := 13) rfl)), (List.forall_mem_cons.mpr ⟨List.mem_cons_of_mem _ (List.mem_append_left _ (List.mem_of_getElem? (i := 14) rfl)), (List.forall_mem_cons.mpr ⟨List.mem_cons_of_mem _ (List.mem_append_left _ (List.mem_of_getElem? (i := 3) rfl)), (List.forall_mem_cons.mpr ⟨List.mem_cons_of_mem _ (List.mem_append_left _ (List.mem_of_getElem? (i := 15) rfl)), (List.forall_mem_cons.mpr ⟨List.mem_cons_of_mem _ (List.mem_append_left _ (List.mem_of_getElem? (i := 16) rfl)), (List.forall_mem_cons.mpr ⟨List.mem_cons_of_mem _ (List.mem_append_left _ (List.mem_of_getElem? (i := 17) rfl)), (List.forall_mem_cons.mpr ⟨List.mem_cons_of_mem _ (List.mem_append_left _ (List.mem_of_getElem? (i := 18) rfl)), (List.forall_mem_cons.mpr ⟨List.mem_cons_of_mem _ (List.mem_append_left _ (List.mem_of_getElem? (i := 19) rfl)), (List.forall_mem_cons.mpr ⟨List.mem_cons_of_mem _ (List.mem_append_left _ (List.mem_of_getElem? (i := 20) rfl)), (List.forall_mem_cons.mpr ⟨List.mem_cons_of_mem _ (List.mem_append_left _ (List.mem_of_getElem? (i := 21) rfl)), (fun _ h => absurd h List.not_mem_nil)⟩)⟩)⟩)⟩)⟩)⟩)⟩)⟩)⟩)⟩)⟩)⟩)⟩)⟩)⟩)⟩)⟩)⟩) (fun _ h => List.mem_cons_of_mem _ (List.mem_append_right _ (h))))⟩)) (by decide +kernel)
set_option maxRecDepth 20000 in
theorem gX9_newsDays_X9_quickest : GoodIn wsX9_newsDays (wsV RX9 32 RX9 yX9_quickest wsX9_quickest) := goodIn_app (goodIn_sub (List.forall_mem_cons.mpr ⟨List.mem_cons_of_mem _ (List.mem_append_left _ (List.mem_of_getElem? (i := 0) rfl)), (List.forall_mem_cons.mpr ⟨List.mem_cons_of_mem _ (List.mem_append_left _ (List.mem_of_getElem? (i := 1) rfl)), (List.forall_mem_cons.mpr ⟨List.mem_cons_of_mem _ (List.mem_append_left _ (List.mem_of_getElem? (i := 2) rfl)), (List.forall_mem_cons.mpr ⟨List.mem_cons_of_mem _ (List.mem_append_left _ (List.mem_of_getElem? (i := 3) rfl)), (fun _ h => absurd h List.not_mem_nil)⟩)⟩)⟩)⟩) (by decide +kernel)) ggX9_newsDays_X9_quickest
theorem dX9_newsDays_0 : decode cX9_newsDays 0 = .ok (.aload_n 0, 1) := by decide +kernel
theorem dX9_newsDays_1 : decode cX9_newsDays 1 = .ok (.iload_n 1, 1) := by decide +kernel
theorem dX9_newsDays_2 : decode cX9_newsDays 2 = .ok (.iconst 1, 1) := by decide +kernel
theorem dX9_newsDays_3 : decode cX9_newsDays 3 = .ok (.invokevirtual 32, 3) := by decide +kernel
theorem dX9_newsDays_6 : decode cX9_newsDays 6 = .ok (.areturn, 1) := by decide +kernel
set_option maxRecDepth 20000 in
theorem ggX9_quickest_X9_nearestAhead : GoodIn wsX9_quickest wsX9_nearestAhead := goodIn_sub (show ∀ w ∈ wsX9_nearestAhead, w ∈ wsX9_quickest from (List.forall_mem_cons.mpr ⟨List.mem_cons_of_mem _ (List.mem_append_left _ (List.mem_of_getElem? (i := 11) rfl)), (gw_a (List.forall_mem_cons.mpr ⟨List.mem_cons_of_mem _ (List.mem_append_left _ (List.mem_of_getElem? (i := 2) rfl)), (List.forall_mem_cons.mpr ⟨List.mem_cons_of_mem _ (List.mem_append_left _ (List.mem_of_getElem? (i := 0) rfl)), (List.forall_mem_cons.mpr ⟨List.mem_cons_of_mem _ (List.mem_append_left _ (List.mem_of_getElem? (i := 1) rfl)), (fun _ h => absurd h List.not_mem_nil)⟩)⟩)⟩) (fun _ h => List.mem_cons_of_mem _ (List.mem_append_right _ (h))))⟩)) (by decide +kernel)
set_option maxRecDepth 20000 in
theorem gX9_quickest_X9_nearestAhead : GoodIn wsX9_quickest (wsV RX9 36 RX9 yX9_nearestAhead wsX9_nearestAhead) := goodIn_app (goodIn_sub (List.forall_mem_cons.mpr ⟨List.mem_cons_of_mem _ (List.mem_append_left _ (List.mem_of_getElem? (i := 7) rfl)), (List.forall_mem_cons.mpr ⟨List.mem_cons_of_mem _ (List.mem_append_left _ (List.mem_of_getElem? (i := 8) rfl)), (List.forall_mem_cons.mpr ⟨List.mem_cons_of_mem _ (List.mem_append_left _ (List.mem_of_getElem? (i := 9) rfl)), (List.forall_mem_cons.mpr ⟨List.mem_cons_of_mem _ (List.mem_append_left _ (List.mem_of_getElem? (i := 10) rfl)), (fun _ h => absurd h List.not_mem_nil)⟩)⟩)⟩)⟩) (by decide +kernel)) ggX9_quickest_X9_nearestAhead
set_option maxRecDepth 20000 in
theorem ggX9_quickest_X9_step : GoodIn wsX9_quickest wsX9_step := goodIn_sub (show ∀ w ∈ wsX9_step, w ∈ wsX9_quickest from (List.forall_mem_cons.mpr ⟨List.mem_cons_of_mem _ (List.mem_append_left _ (List.mem_of_getElem? (i := 15) rfl)), (gw_a (List.forall_mem_cons.mpr ⟨List.mem_cons_of_mem _ (List.mem_append_left _ (List.mem_of_getElem? (i := 16) rfl)), (List.forall_mem_cons.mpr ⟨List.mem_cons_of_mem _ (List.mem_append_left _ (List.mem_of_getElem? (i := 17) rfl)), (List.forall_mem_cons.mpr ⟨List.mem_cons_of_mem _ (List.mem_append_left _ (List.mem_of_getElem? (i := 3) rfl)), (List.forall_mem_cons.mpr ⟨List.mem_cons_of_mem _ (List.mem_append_left _ (List.mem_of_getElem? (i := 4) rfl)), (List.forall_mem_cons.mpr ⟨List.mem_cons_of_mem _ (List.mem_append_left _ (List.mem_of_getElem? (i := 5) rfl)), (List.forall_mem_cons.mpr ⟨List.mem_cons_of_mem _ (List.mem_append_left _ (List.mem_of_getElem? (i := 6) rfl)), (fun _ h => absurd h List.not_mem_nil)⟩)⟩)⟩)⟩)⟩)⟩) (fun _ h => List.mem_cons_of_mem _ (List.mem_append_right _ (h))))⟩)) (by decide +kernel)
set_option maxRecDepth 20000 in
theorem gX9_quickest_X9_step : GoodIn wsX9_quickest (wsV RX9 40 RX9 yX9_step wsX9_step) := goodIn_app (goodIn_sub (List.forall_mem_cons.mpr ⟨List.mem_cons_of_mem _ (List.mem_append_left _ (List.mem_of_getElem? (i := 12) rfl)), (List.forall_mem_cons.mpr ⟨List.mem_cons_of_mem _ (List.mem_append_left _ (List.mem_of_getElem? (i := 13) rfl)), (List.forall_mem_cons.mpr ⟨List.mem_cons_of_mem _ (List.mem_append_left _ (List.mem_of_getElem? (i := 14) rfl)), (List.forall_mem_cons.mpr ⟨List.mem_cons_of_mem _ (List.mem_append_left _ (List.mem_of_getElem? (i := 10) rfl)), (fun _ h => absurd h List.not_mem_nil)⟩)⟩)⟩)⟩) (by decide +kernel)) ggX9_quickest_X9_step
theorem dX9_quickest_0 : decode cX9_quickest 0 = .ok (.iconst 0, 1) := by decide +kernel
theorem dX9_quickest_1 : decode cX9_quickest 1 = .ok (.istore_n 3, 1) := by decide +kernel
theorem dX9_quickest_2 : decode cX9_quickest 2 = .ok (.iload_n 3, 1) := by decide +kernel
theorem dX9_quickest_3 : decode cX9_quickest 3 = .ok (.bipush 12, 2) := by decide +kernel
theorem dX9_quickest_5 : decode cX9_quickest 5 = .ok (.if_icmp .ge 33, 3) := by decide +kernel
theorem dX9_quickest_8 : decode cX9_quickest 8 = .ok (.aload_n 0, 1) := by decide +kernel
theorem dX9_quickest_9 : decode cX9_quickest 9 = .ok (.getfield 18, 3) := by decide +kernel
theorem dX9_quickest_12 : decode cX9_quickest 12 = .ok (.iload_n 3, 1) := by decide +kernel
theorem dX9_quickest_13 : decode cX9_quickest 13 = .ok (.iload_n 3, 1) := by decide +kernel
theorem dX9_quickest_14 : decode cX9_quickest 14 = .ok (.iload_n 1, 1) := by decide +kernel
theorem dX9_quickest_15 : decode cX9_quickest 15 = .ok (.if_icmp .ne 7, 3) := by decide +kernel
theorem dX9_quickest_18 : decode cX9_quickest 18 = .ok (.iconst 0, 1) := by decide +kernel
theorem dX9_quickest_19 : decode cX9_quickest 19 = .ok (.goto 5, 3) := by decide +kernel
theorem dX9_quickest_22 : decode cX9_quickest 22 = .ok (.ldc 25, 2) := by decide +kernel
theorem dX9_quickest_24 : decode cX9_quickest 24 = .ok (.iastore, 1) := by decide +kernel
theorem dX9_quickest_25 : decode cX9_quickest 25 = .ok (.aload_n 0, 1) := by decide +kernel
theorem dX9_quickest_26 : decode cX9_quickest 26 = .ok (.getfield 21, 3) := by decide +kernel
theorem dX9_quickest_29 : decode cX9_quickest 29 = .ok (.iload_n 3, 1) := by decide +kernel
theorem dX9_quickest_30 : decode cX9_quickest 30 = .ok (.iconst 0, 1) := by decide +kernel
theorem dX9_quickest_31 : decode cX9_quickest 31 = .ok (.bastore, 1) := by decide +kernel
theorem dX9_quickest_32 : decode cX9_quickest 32 = .ok (.iinc 3 1, 3) := by decide +kernel
theorem dX9_quickest_35 : decode cX9_quickest 35 = .ok (.goto (-33), 3) := by decide +kernel
theorem dX9_quickest_38 : decode cX9_quickest 38 = .ok (.iconst 0, 1) := by decide +kernel
theorem dX9_quickest_39 : decode cX9_quickest 39 = .ok (.istore_n 3, 1) := by decide +kernel
theorem dX9_quickest_40 : decode cX9_quickest 40 = .ok (.iload_n 3, 1) := by decide +kernel
theorem dX9_quickest_41 : decode cX9_quickest 41 = .ok (.bipush 12, 2) := by decide +kernel
theorem dX9_quickest_43 : decode cX9_quickest 43 = .ok (.if_icmp .ge 84, 3) := by decide +kernel
theorem dX9_quickest_46 : decode cX9_quickest 46 = .ok (.aload_n 0, 1) := by decide +kernel
theorem dX9_quickest_47 : decode cX9_quickest 47 = .ok (.invokevirtual 36, 3) := by decide +kernel
theorem dX9_quickest_50 : decode cX9_quickest 50 = .ok (.istore 4, 2) := by decide +kernel
theorem dX9_quickest_52 : decode cX9_quickest 52 = .ok (.iload 4, 2) := by decide +kernel
theorem dX9_quickest_54 : decode cX9_quickest 54 = .ok (.iconst (-1), 1) := by decide +kernel
theorem dX9_quickest_55 : decode cX9_quickest 55 = .ok (.if_icmp .ne 8, 3) := by decide +kernel
theorem dX9_quickest_58 : decode cX9_quickest 58 = .ok (.aload_n 0, 1) := by decide +kernel
theorem dX9_quickest_59 : decode cX9_quickest 59 = .ok (.getfield 18, 3) := by decide +kernel
theorem dX9_quickest_62 : decode cX9_quickest 62 = .ok (.areturn, 1) := by decide +kernel
theorem dX9_quickest_63 : decode cX9_quickest 63 = .ok (.aload_n 0, 1) := by decide +kernel
theorem dX9_quickest_64 : decode cX9_quickest 64 = .ok (.getfield 21, 3) := by decide +kernel
theorem dX9_quickest_67 : decode cX9_quickest 67 = .ok (.iload 4, 2) := by decide +kernel
theorem dX9_quickest_69 : decode cX9_quickest 69 = .ok (.iconst 1, 1) := by decide +kernel
theorem dX9_quickest_70 : decode cX9_quickest 70 = .ok (.bastore, 1) := by decide +kernel
theorem dX9_quickest_71 : decode cX9_quickest 71 = .ok (.iconst 0, 1) := by decide +kernel
theorem dX9_quickest_72 : decode cX9_quickest 72 = .ok (.istore 5, 2) := by decide +kernel
theorem dX9_quickest_74 : decode cX9_quickest 74 = .ok (.iload 5, 2) := by decide +kernel
theorem dX9_quickest_76 : decode cX9_quickest 76 = .ok (.bipush 12, 2) := by decide +kernel
theorem dX9_quickest_78 : decode cX9_quickest 78 = .ok (.if_icmp .ge 43, 3) := by decide +kernel
theorem dX9_quickest_81 : decode cX9_quickest 81 = .ok (.aload_n 0, 1) := by decide +kernel
theorem dX9_quickest_82 : decode cX9_quickest 82 = .ok (.getfield 18, 3) := by decide +kernel
theorem dX9_quickest_85 : decode cX9_quickest 85 = .ok (.iload 5, 2) := by decide +kernel
theorem dX9_quickest_87 : decode cX9_quickest 87 = .ok (.aload_n 0, 1) := by decide +kernel
theorem dX9_quickest_88 : decode cX9_quickest 88 = .ok (.getfield 18, 3) := by decide +kernel
theorem dX9_quickest_91 : decode cX9_quickest 91 = .ok (.iload 5, 2) := by decide +kernel
theorem dX9_quickest_93 : decode cX9_quickest 93 = .ok (.iaload, 1) := by decide +kernel
theorem dX9_quickest_94 : decode cX9_quickest 94 = .ok (.aload_n 0, 1) := by decide +kernel
theorem dX9_quickest_95 : decode cX9_quickest 95 = .ok (.getfield 18, 3) := by decide +kernel
theorem dX9_quickest_98 : decode cX9_quickest 98 = .ok (.iload 4, 2) := by decide +kernel
theorem dX9_quickest_100 : decode cX9_quickest 100 = .ok (.iaload, 1) := by decide +kernel
theorem dX9_quickest_101 : decode cX9_quickest 101 = .ok (.aload_n 0, 1) := by decide +kernel
theorem dX9_quickest_102 : decode cX9_quickest 102 = .ok (.iload 4, 2) := by decide +kernel
theorem dX9_quickest_104 : decode cX9_quickest 104 = .ok (.iload 5, 2) := by decide +kernel
theorem dX9_quickest_106 : decode cX9_quickest 106 = .ok (.iload_n 2, 1) := by decide +kernel
theorem dX9_quickest_107 : decode cX9_quickest 107 = .ok (.invokevirtual 40, 3) := by decide +kernel
theorem dX9_quickest_110 : decode cX9_quickest 110 = .ok (.iadd, 1) := by decide +kernel
theorem dX9_quickest_111 : decode cX9_quickest 111 = .ok (.invokestatic 44, 3) := by decide +kernel
theorem dX9_quickest_114 : decode cX9_quickest 114 = .ok (.iastore, 1) := by decide +kernel
theorem dX9_quickest_115 : decode cX9_quickest 115 = .ok (.iinc 5 1, 3) := by decide +kernel
theorem dX9_quickest_118 : decode cX9_quickest 118 = .ok (.goto (-44), 3) := by decide +kernel
theorem dX9_quickest_121 : decode cX9_quickest 121 = .ok (.iinc 3 1, 3) := by decide +kernel
theorem dX9_quickest_124 : decode cX9_quickest 124 = .ok (.goto (-84), 3) := by decide +kernel
theorem dX9_quickest_127 : decode cX9_quickest 127 = .ok (.aload_n 0, 1) := by decide +kernel
theorem dX9_quickest_128 : decode cX9_quickest 128 = .ok (.getfield 18, 3) := by decide +kernel
theorem dX9_quickest_131 : decode cX9_quickest 131 = .ok (.areturn, 1) := by decide +kernel
theorem dX9_nearestAhead_0 : decode cX9_nearestAhead 0 = .ok (.iconst (-1), 1) := by decide +kernel
theorem dX9_nearestAhead_1 : decode cX9_nearestAhead 1 = .ok (.istore_n 1, 1) := by decide +kernel
theorem dX9_nearestAhead_2 : decode cX9_nearestAhead 2 = .ok (.iconst 0, 1) := by decide +kernel
theorem dX9_nearestAhead_3 : decode cX9_nearestAhead 3 = .ok (.istore_n 2, 1) := by decide +kernel
theorem dX9_nearestAhead_4 : decode cX9_nearestAhead 4 = .ok (.iload_n 2, 1) := by decide +kernel
theorem dX9_nearestAhead_5 : decode cX9_nearestAhead 5 = .ok (.bipush 12, 2) := by decide +kernel
theorem dX9_nearestAhead_7 : decode cX9_nearestAhead 7 = .ok (.if_icmp .ge 51, 3) := by decide +kernel
theorem dX9_nearestAhead_10 : decode cX9_nearestAhead 10 = .ok (.aload_n 0, 1) := by decide +kernel
theorem dX9_nearestAhead_11 : decode cX9_nearestAhead 11 = .ok (.getfield 21, 3) := by decide +kernel
theorem dX9_nearestAhead_14 : decode cX9_nearestAhead 14 = .ok (.iload_n 2, 1) := by decide +kernel
theorem dX9_nearestAhead_15 : decode cX9_nearestAhead 15 = .ok (.baload, 1) := by decide +kernel
theorem dX9_nearestAhead_16 : decode cX9_nearestAhead 16 = .ok (.ifCond .ne 36, 3) := by decide +kernel
theorem dX9_nearestAhead_19 : decode cX9_nearestAhead 19 = .ok (.aload_n 0, 1) := by decide +kernel
theorem dX9_nearestAhead_20 : decode cX9_nearestAhead 20 = .ok (.getfield 18, 3) := by decide +kernel
theorem dX9_nearestAhead_23 : decode cX9_nearestAhead 23 = .ok (.iload_n 2, 1) := by decide +kernel
theorem dX9_nearestAhead_24 : decode cX9_nearestAhead 24 = .ok (.iaload, 1) := by decide +kernel
theorem dX9_nearestAhead_25 : decode cX9_nearestAhead 25 = .ok (.ldc 25, 2) := by decide +kernel
theorem dX9_nearestAhead_27 : decode cX9_nearestAhead 27 = .ok (.if_icmp .ge 25, 3) := by decide +kernel
theorem dX9_nearestAhead_30 : decode cX9_nearestAhead 30 = .ok (.iload_n 1, 1) := by decide +kernel
theorem dX9_nearestAhead_31 : decode cX9_nearestAhead 31 = .ok (.iconst (-1), 1) := by decide +kernel
theorem dX9_nearestAhead_32 : decode cX9_nearestAhead 32 = .ok (.if_icmp .eq 18, 3) := by decide +kernel
theorem dX9_nearestAhead_35 : decode cX9_nearestAhead 35 = .ok (.aload_n 0, 1) := by decide +kernel
theorem dX9_nearestAhead_36 : decode cX9_nearestAhead 36 = .ok (.getfield 18, 3) := by decide +kernel
theorem dX9_nearestAhead_39 : decode cX9_nearestAhead 39 = .ok (.iload_n 2, 1) := by decide +kernel
theorem dX9_nearestAhead_40 : decode cX9_nearestAhead 40 = .ok (.iaload, 1) := by decide +kernel
theorem dX9_nearestAhead_41 : decode cX9_nearestAhead 41 = .ok (.aload_n 0, 1) := by decide +kernel
theorem dX9_nearestAhead_42 : decode cX9_nearestAhead 42 = .ok (.getfield 18, 3) := by decide +kernel
theorem dX9_nearestAhead_45 : decode cX9_nearestAhead 45 = .ok (.iload_n 1, 1) := by decide +kernel
theorem dX9_nearestAhead_46 : decode cX9_nearestAhead 46 = .ok (.iaload, 1) := by decide +kernel
theorem dX9_nearestAhead_47 : decode cX9_nearestAhead 47 = .ok (.if_icmp .ge 5, 3) := by decide +kernel
theorem dX9_nearestAhead_50 : decode cX9_nearestAhead 50 = .ok (.iload_n 2, 1) := by decide +kernel
theorem dX9_nearestAhead_51 : decode cX9_nearestAhead 51 = .ok (.istore_n 1, 1) := by decide +kernel
theorem dX9_nearestAhead_52 : decode cX9_nearestAhead 52 = .ok (.iinc 2 1, 3) := by decide +kernel
theorem dX9_nearestAhead_55 : decode cX9_nearestAhead 55 = .ok (.goto (-51), 3) := by decide +kernel
theorem dX9_nearestAhead_58 : decode cX9_nearestAhead 58 = .ok (.iload_n 1, 1) := by decide +kernel
theorem dX9_nearestAhead_59 : decode cX9_nearestAhead 59 = .ok (.ireturn, 1) := by decide +kernel
theorem dX9_step_0 : decode cX9_step 0 = .ok (.aload_n 0, 1) := by decide +kernel
theorem dX9_step_1 : decode cX9_step 1 = .ok (.getfield 9, 3) := by decide +kernel
theorem dX9_step_4 : decode cX9_step 4 = .ok (.iload_n 1, 1) := by decide +kernel
theorem dX9_step_5 : decode cX9_step 5 = .ok (.bipush 12, 2) := by decide +kernel
theorem dX9_step_7 : decode cX9_step 7 = .ok (.imul, 1) := by decide +kernel
theorem dX9_step_8 : decode cX9_step 8 = .ok (.iload_n 2, 1) := by decide +kernel
theorem dX9_step_9 : decode cX9_step 9 = .ok (.iadd, 1) := by decide +kernel
theorem dX9_step_10 : decode cX9_step 10 = .ok (.iaload, 1) := by decide +kernel
theorem dX9_step_11 : decode cX9_step 11 = .ok (.istore 4, 2) := by decide +kernel
theorem dX9_step_13 : decode cX9_step 13 = .ok (.iload_n 3, 1) := by decide +kernel
theorem dX9_step_14 : decode cX9_step 14 = .ok (.ifCond .eq 22, 3) := by decide +kernel
theorem dX9_step_17 : decode cX9_step 17 = .ok (.iload 4, 2) := by decide +kernel
theorem dX9_step_19 : decode cX9_step 19 = .ok (.aload_n 0, 1) := by decide +kernel
theorem dX9_step_20 : decode cX9_step 20 = .ok (.getfield 15, 3) := by decide +kernel
theorem dX9_step_23 : decode cX9_step 23 = .ok (.iload_n 1, 1) := by decide +kernel
theorem dX9_step_24 : decode cX9_step 24 = .ok (.bipush 12, 2) := by decide +kernel
theorem dX9_step_26 : decode cX9_step 26 = .ok (.imul, 1) := by decide +kernel
theorem dX9_step_27 : decode cX9_step 27 = .ok (.iload_n 2, 1) := by decide +kernel
theorem dX9_step_28 : decode cX9_step 28 = .ok (.iadd, 1) := by decide +kernel
theorem dX9_step_29 : decode cX9_step 29 = .ok (.iaload, 1) := by decide +kernel
theorem dX9_step_30 : decode cX9_step 30 = .ok (.invokestatic 44, 3) := by decide +kernel
theorem dX9_step_33 : decode cX9_step 33 = .ok (.goto 5, 3) := by decide +kernel
theorem dX9_step_36 : decode cX9_step 36 = .ok (.iload 4, 2) := by decide +kernel
theorem dX9_step_38 : decode cX9_step 38 = .ok (.ireturn, 1) := by decide +kernel
set_option maxRecDepth 20000 in
theorem ggX10_init_X9_init : GoodIn wsX10_init wsX9_init := goodIn_sub (show ∀ w ∈ wsX9_init, w ∈ wsX10_init from (List.forall_mem_cons.mpr ⟨List.mem_cons_of_mem _ (List.mem_append_left _ (List.mem_append_left _ (List.mem_append_left _ (List.mem_append_left _ (List.mem_append_left _ (List.mem_append_left _ (List.mem_append_left _ (List.mem_append_right _ (List.mem_append_left _ (List.mem_of_getElem? (i := 16) rfl)))))))))), (gw_a (List.forall_mem_cons.mpr ⟨List.mem_cons_of_mem _ (List.mem_append_left _ (List.mem_append_left _ (List.mem_append_left _ (List.mem_append_left _ (List.mem_append_left _ (List.mem_append_left _ (List.mem_append_left _ (List.mem_append_right _ (List.mem_append_left _ (List.mem_of_getElem? (i := 17) rfl)))))))))), (List.forall_mem_cons.mpr ⟨List.mem_cons_of_mem _ (List.mem_append_left _ (List.mem_append_left _ (List.mem_append_left _ (List.mem_append_left _ (List.mem_append_left _ (List.mem_append_left _ (List.mem_append_left _ (List.mem_append_left _ (List.mem_of_getElem? (i := 1) rfl))))))))), (List.forall_mem_cons.mpr ⟨List.mem_cons_of_mem _ (List.mem_append_left _ (List.mem_append_left _ (List.mem_append_left _ (List.mem_append_left _ (List.mem_append_left _ (List.mem_append_left _ (List.mem_append_left _ (List.mem_append_left _ (List.mem_of_getElem? (i := 2) rfl))))))))), (List.forall_mem_cons.mpr ⟨List.mem_cons_of_mem _ (List.mem_append_left _ (List.mem_append_left _ (List.mem_append_left _ (List.mem_append_left _ (List.mem_append_left _ (List.mem_append_left _ (List.mem_append_left _ (List.mem_append_right _ (List.mem_append_left _ (List.mem_of_getElem? (i := 3) rfl)))))))))), (List.forall_mem_cons.mpr ⟨List.mem_cons_of_mem _ (List.mem_append_left _ (List.mem_append_left _ (List.mem_append_left _ (List.mem_append_left _ (List.mem_append_left _ (List.mem_append_left _ (List.mem_append_left _ (List.mem_append_right _ (List.mem_append_left _ (List.mem_of_getElem? (i := 18) rfl)))))))))), (List.forall_mem_cons.mpr ⟨List.mem_cons_of_mem _ (List.mem_append_left _ (List.mem_append_left _ (List.mem_append_left _ (List.mem_append_left _ (List.mem_append_left _ (List.mem_append_left _ (List.mem_append_left _ (List.mem_append_right _ (List.mem_append_left _ (List.mem_of_getElem? (i := 19) rfl)))))))))), (List.forall_mem_cons.mpr ⟨List.mem_cons_of_mem _ (List.mem_append_left _ (List.mem_append_left _ (List.mem_append_left _ (List.mem_append_left _ (List.mem_append_left _ (List.mem_append_left _ (List.mem_append_left _ (List.mem_append_right _ (List.mem_append_left _ (List.mem_of_getElem? (i := 20) rfl)))))))))), (List.forall_mem_cons.mpr ⟨List.mem_cons_of_mem _ (List.mem_append_left _ (List.mem_append_left _ (List.mem_append_left _ (List.mem_append_left _ (List.mem_append_left _ (List.mem_append_left _ (List.mem_append_left _ (List.mem_append_right _ (List.mem_append_left _ (List.mem_of_getElem? (i := 21) rfl)))))))))), (List.forall_mem_cons.mpr ⟨List.mem_cons_of_mem _ (List.mem_append_left _ (List.mem_append_left _ (List.mem_append_left _ (List.mem_append_left _ (List.mem_append_left _ (List.mem_append_left _ (List.mem_append_left _ (List.mem_append_right _ (List.mem_append_left _ (List.mem_of_getElem? (i := 22) rfl)))))))))), (List.forall_mem_cons.mpr ⟨List.mem_cons_of_mem _ (List.mem_append_left _ (List.mem_append_left _ (List.mem_append_left _ (List.mem_append_left _ (List.mem_append_left _ (List.mem_append_left _ (List.mem_append_left _ (List.mem_append_right _ (List.mem_append_left _ (List.mem_of_getElem? (i := 23) rfl)))))))))), (List.forall_mem_cons.mpr ⟨List.mem_cons_of_mem _ (List.mem_append_left _ (List.mem_append_left _ (List.mem_append_left _ (List.mem_append_left _ (List.mem_append_left _ (List.mem_append_left _ (List.mem_append_left _ (List.mem_append_right _ (List.mem_append_right _ (List.mem_append_left _ (List.mem_of_getElem? (i := 0) rfl))))))))))), (List.forall_mem_cons.mpr ⟨List.mem_cons_of_mem _ (List.mem_append_left _ (List.mem_append_left _ (List.mem_append_left _ (List.mem_append_left _ (List.mem_append_left _ (List.mem_append_left _ (List.mem_append_left _ (List.mem_append_right _ (List.mem_append_right _ (List.mem_append_left _ (List.mem_of_getElem? (i := 1) rfl))))))))))), (List.forall_mem_cons.mpr ⟨List.mem_cons_of_mem _ (List.mem_append_left _ (List.mem_append_left _ (List.mem_append_left _ (List.mem_append_left _ (List.mem_append_left _ (List.mem_append_left _ (List.mem_append_left _ (List.mem_append_right _ (List.mem_append_right _ (List.mem_append_left _ (List.mem_of_getElem? (i := 2) rfl))))))))))), (List.forall_mem_cons.mpr ⟨List.mem_cons_of_mem _ (List.mem_append_left _ (List.mem_append_left _ (List.mem_append_left _ (List.mem_append_left _ (List.mem_append_left _ (List.mem_append_left _ (List.mem_append_left _ (List.mem_append_right _ (List.mem_append_right _ (List.mem_append_left _ (List.mem_of_getElem? (i := 3) rfl))))))))))), (fun _ h => absurd h List.not_mem_nil)⟩)⟩)⟩)⟩)⟩)⟩)⟩)⟩)⟩)⟩)⟩)⟩)⟩)⟩) (fun _ h => List.mem_cons_of_mem _ (List.mem_append_left _ (List.mem_append_left _ (List.mem_append_left _ (List.mem_append_left _ (List.mem_append_left _ (List.mem_append_left _ (List.mem_append_right _ (h))))))))))⟩)) (by decide +kernel)
set_option maxRecDepth 20000 in
theorem gX10_init_X9_init : GoodIn wsX10_init (wsX9_init) := ggX10_init_X9_init
set_option maxRecDepth 20000 in
theorem ggX10_init_X8_init : GoodIn wsX10_init wsX8_init := goodIn_sub (show ∀ w ∈ wsX8_init, w ∈ wsX10_init from (List.forall_mem_cons.mpr ⟨List.mem_cons_of_mem _ (List.mem_append_left _ (List.mem_append_left _ (List.mem_append_left _ (List.mem_append_left _ (List.mem_append_left _ (List.mem_append_left _ (List.mem_append_left _ (List.mem_append_right _ (List.mem_append_right _ (List.mem_append_left _ (List.mem_of_getElem? (i := 5) rfl))))))))))), (gw_a (gw_a (List.forall_mem_cons.mpr ⟨List.mem_cons_of_mem _ (List.mem_append_left _ (List.mem_append_left _ (List.mem_append_left _ (List.mem_append_left _ (List.mem_append_left _ (List.mem_append_left _ (List.mem_append_left _ (List.mem_append_right _ (List.mem_append_right _ (List.mem_append_left _ (List.mem_of_getElem? (i := 6) rfl))))))))))), (List.forall_mem_cons.mpr ⟨List.mem_cons_of_mem _ (List.mem_append_left _ (List.mem_append_left _ (List.mem_append_left _ (List.mem_append_left _ (List.mem_append_left _ (List.mem_append_left _ (List.mem_append_left _ (List.mem_append_left _ (List.mem_of_getElem? (i := 1) rfl))))))))), (List.forall_mem_cons.mpr ⟨List.mem_cons_of_mem _ (List.mem_append_left _ (List.mem_append_left _ (List.mem_append_left _ (List.mem_append_left _ (List.mem_append_left _ (List.mem_append_left _ (List.mem_append_left _ (List.mem_append_left _ (List.mem_of_getElem? (i := 2) rfl))))))))), (List.forall_mem_cons.mpr ⟨List.mem_cons_of_mem _ (List.mem_append_left _ (List.mem_append_left _ (List.mem_append_left _ (List.mem_append_left _ (List.mem_append_left _ (List.mem_append_left _ (List.mem_append_left _ (List.mem_append_right _ (List.mem_append_right _ (List.mem_append_left _ (List.mem_of_getElem? (i := 7) rfl))))))))))), (List.forall_mem_cons.mpr ⟨List.mem_cons_of_mem _ (List.mem_append_left _ (List.mem_append_left _ (List.mem_append_left _ (List.mem_append_left _ (List.mem_append_left _ (List.mem_append_left _ (List.mem_append_left _ (List.mem_append_right _ (List.mem_append_right _ (List.mem_append_left _ (List.mem_of_getElem? (i := 8) rfl))))))))))), (List.forall_mem_cons.mpr ⟨List.mem_cons_of_mem _ (List.mem_append_left _ (List.mem_append_left _ (List.mem_append_left _ (List.mem_append_left _ (List.mem_append_left _ (List.mem_append_left _ (List.mem_append_left _ (List.mem_append_right _ (List.mem_append_right _ (List.mem_append_left _ (List.mem_of_getElem? (i := 9) rfl))))))))))), (List.forall_mem_cons.mpr ⟨List.mem_cons_of_mem _ (List.mem_append_left _ (List.mem_append_left _ (List.mem_append_left _ (List.mem_append_left _ (List.mem_append_left _ (List.mem_append_left _ (List.mem_append_left _ (List.mem_append_right _ (List.mem_append_right _ (List.mem_append_left _ (List.mem_of_getElem? (i := 10) rfl))))))))))), (List.forall_mem_cons.mpr ⟨List.mem_cons_of_mem _ (List.mem_append_left _ (List.mem_append_left _ (List.mem_append_left _ (List.mem_append_left _ (List.mem_append_left _ (List.mem_append_left _ (List.mem_append_left _ (List.mem_append_right _ (List.mem_append_left _ (List.mem_of_getElem? (i := 6) rfl)))))))))), (List.forall_mem_cons.mpr ⟨List.mem_cons_of_mem _ (List.mem_append_left _ (List.mem_append_left _ (List.mem_append_left _ (List.mem_append_left _ (List.mem_append_left _ (List.mem_append_left _ (List.mem_append_left _ (List.mem_append_right _ (List.mem_append_left _ (List.mem_of_getElem? (i := 7) rfl)))))))))), (List.forall_mem_cons.mpr ⟨List.mem_cons_of_mem _ (List.mem_append_left _ (List.mem_append_left _ (List.mem_append_left _ (List.mem_append_left _ (List.mem_append_left _ (List.mem_append_left _ (List.mem_append_left _ (List.mem_append_right _ (List.mem_append_right _ (List.mem_append_left _ (List.mem_of_getElem? (i := 11) rfl))))))))))), (List.forall_mem_cons.mpr ⟨List.mem_cons_of_mem _ (List.mem_append_left _ (List.mem_append_left _ (List.mem_append_left _ (List.mem_append_left _ (List.mem_append_left _ (List.mem_append_left _ (List.mem_append_left _ (List.mem_append_right _ (List.mem_append_right _ (List.mem_append_left _ (List.mem_of_getElem? (i := 12) rfl))))))))))), (List.forall_mem_cons.mpr ⟨List.mem_cons_of_mem _ (List.mem_append_left _ (List.mem_append_left _ (List.mem_append_left _ (List.mem_append_left _ (List.mem_append_left _ (List.mem_append_left _ (List.mem_append_left _ (List.mem_append_right _ (List.mem_append_right _ (List.mem_append_left _ (List.mem_of_getElem? (i := 13) rfl))))))))))), (List.forall_mem_cons.mpr ⟨List.mem_cons_of_mem _ (List.mem_append_left _ (List.mem_append_left _ (List.mem_append_left _ (List.mem_append_left _ (List.mem_append_left _ (List.mem_append_left _ (List.mem_append_left _ (List.mem_append_right _ (List.mem_append_right _ (List.mem_append_left _ (List.mem_of_getElem? (i := 14) rfl))))))))))), (List.forall_mem_cons.mpr ⟨List.mem_cons_of_mem _ (List.mem_append_left _ (List.mem_append_left _ (List.mem_append_left _ (List.mem_append_left _ (List.mem_append_left _ (List.mem_append_left _ (List.mem_append_left _ (List.mem_append_right _ (List.mem_append_left _ (List.mem_of_getElem? (i := 3) rfl)))))))))), (List.forall_mem_cons.mpr ⟨List.mem_cons_of_mem _ (List.mem_append_left _ (List.mem_append_left _ (List.mem_append_left _ (List.mem_append_left _ (List.mem_append_left _ (List.mem_append_left _ (List.mem_append_left _ (List.mem_append_right _ (List.mem_append_right _ (List.mem_append_left _ (List.mem_of_getElem? (i := 15) rfl))))))))))), (List.forall_mem_cons.mpr ⟨List.mem_cons_of_mem _ (List.mem_append_left _ (List.mem_append_left _ (List.mem_append_left _ (List.mem_append_left _ (List.mem_append_left _ (List.mem_append_left _ (List.mem_append_left _ (List.mem_append_right _ (List.mem_append_right _ (List.mem_append_left _ (List.mem_of_getElem? (i := 16) rfl))))))))))), (List.forall_mem_cons.mpr ⟨List.mem_cons_of_mem _ (List.mem_append_left _ (List.mem_append_left _ (List.mem_append_left _ (List.mem_append_left _ (List.mem_append_left _ (List.mem_append_left _ (List.mem_append_left _ (List.mem_append_right _ (List.mem_append_right _ (List.mem_append_left _ (List.mem_of_getElem? (i := 17) rfl))))))))))), (List.forall_mem_cons.mpr ⟨List.mem_cons_of_mem _ (List.mem_append_left _ (List.mem_append_left _ (List.mem_append_left _ (List.mem_append_left _ (List.mem_append_left _ (List.mem_append_left _ (List.mem_append_left _ (List.mem_append_right _ (List.mem_append_right _ (List.mem_append_left _ (List.mem_of_getElem? (i := 18) rfl))))))))))), (List.forall_mem_cons.mpr ⟨List.mem_cons_of_mem _ (List.mem_append_left _ (List.mem_append_left _ (List.mem_append_left _ (List.mem_append_left _ (List.mem_append_left _ (List.mem_append_left _ (List.mem_append_left _ (List.mem_append_right _ (List.mem_append_right _ (List.mem_append_left _ (List.mem_of_getElem? (i := 19) rfl))))))))))), (List.forall_mem_cons.mpr ⟨List.mem_cons_of_mem _ (List.mem_append_left _ (List.mem_append_left _ (List.mem_append_left _ (List.mem_append_left _ (List.mem_append_left _ (List.mem_append_left _ (List.mem_append_left _ (List.mem_append_right _ (List.mem_append_right _ (List.mem_append_left _ (List.mem_of_getElem? (i := 20) rfl))))))))))), (List.forall_mem_cons.mpr ⟨List.mem_cons_of_mem _ (List.mem_append_left _ (List.mem_append_left _ (List.mem_append_left _ (List.mem_append_left _ (List.mem_append_left _ (List.mem_append_left _ (List.mem_append_left _ (List.mem_append_right _ (List.mem_append_right _ (List.mem_append_left _ (List.mem_of_getElem? (i := 21) rfl))))))))))), (fun _ h => absurd h List.not_mem_nil)⟩)⟩)⟩)⟩)⟩)⟩)⟩)⟩)⟩)⟩)⟩)⟩)⟩)⟩)⟩)⟩)⟩)⟩)⟩)⟩)⟩) (fun _ h => List.mem_cons_of_mem _ (List.mem_append_left _ (List.mem_append_left _ (List.mem_append_left _ (List.mem_append_left _ (List.mem_append_right _ (h)))))))) (fun _ h => List.mem_cons_of_mem _ (List.mem_append_left _ (List.mem_append_right _ (h)))))⟩)) (by decide +kernel)
set_option maxRecDepth 20000 in
theorem gX10_init_X8_init_n22 : GoodIn wsX10_init (wsX8_init) := ggX10_init_X8_init
set_option maxRecDepth 20000 in
theorem ggX10_init_X7_init : GoodIn wsX10_init wsX7_init := goodIn_sub (show ∀ w ∈ wsX7_init, w ∈ wsX10_init from (List.forall_mem_cons.mpr ⟨List.mem_cons_of_mem _ (List.mem_append_left _ (List.mem_append_left _ (List.mem_append_left _ (List.mem_append_left _ (List.mem_append_left _ (List.mem_append_left _ (List.mem_append_left _ (List.mem_append_right _ (List.mem_append_right _ (List.mem_append_left _ (List.mem_of_getElem? (i := 23) rfl))))))))))), (gw_a (List.forall_mem_cons.mpr ⟨List.mem_cons_of_mem _ (List.mem_append_left _ (List.mem_append_left _ (List.mem_append_left _ (List.mem_append_left _ (List.mem_append_left _ (List.mem_append_left _ (List.mem_append_left _ (List.mem_append_right _ (List.mem_append_right _ (List.mem_append_right _ (List.mem_append_left _ (List.mem_of_getElem? (i := 0) rfl)))))))))))), (List.forall_mem_cons.mpr ⟨List.mem_cons_of_mem _ (List.mem_append_left _ (List.mem_append_left _ (List.mem_append_left _ (List.mem_append_left _ (List.mem_append_left _ (List.mem_append_left _ (List.mem_append_left _ (List.mem_append_left _ (List.mem_of_getElem? (i := 1) rfl))))))))), (List.forall_mem_cons.mpr ⟨List.mem_cons_of_mem _ (List.mem_append_left _ (List.mem_append_left _ (List.mem_append_left _ (List.mem_append_left _ (List.mem_append_left _ (List.mem_append_left _ (List.mem_append_left _ (List.mem_append_left _ (List.mem_of_getElem? (i := 2) rfl))))))))), (List.forall_mem_cons.mpr ⟨List.mem_cons_of_mem _ (List.mem_append_left _ (List.mem_append_left _ (List.mem_append_left _ (List.mem_append_left _ (List.mem_append_left _ (List.mem_append_left _ (List.mem_append_left _ (List.mem_append_right _ (List.mem_append_right _ (List.mem_append_right _ (List.mem_append_left _ (List.mem_of_getElem? (i := 1) rfl)))))))))))), (List.forall_mem_cons.mpr ⟨List.mem_cons_of_mem _ (List.mem_append_left _ (List.mem_append_left _ (List.mem_append_left _ (List.mem_append_left _ (List.mem_append_left _ (List.mem_append_left _ (List.mem_append_left _ (List.mem_append_right _ (List.mem_append_right _ (List.mem_append_right _ (List.mem_append_left _ (List.mem_of_getElem? (i := 2) rfl)))))))))))), (List.forall_mem_cons.mpr ⟨List.mem_cons_of_mem _ (List.mem_append_left _ (List.mem_append_left _ (List.mem_append_left _ (List.mem_append_left _ (List.mem_append_left _ (List.mem_append_left _ (List.mem_append_left _ (List.mem_append_right _ (List.mem_append_right _ (List.mem_append_right _ (List.mem_append_left _ (List.mem_of_getElem? (i := 3) rfl)))))))))))), (List.forall_mem_cons.mpr ⟨List.mem_cons_of_mem _ (List.mem_append_left _ (List.mem_append_left _ (List.mem_append_left _ (List.mem_append_left _ (List.mem_append_left _ (List.mem_append_left _ (List.mem_append_left _ (List.mem_append_right _ (List.mem_append_right _ (List.mem_append_right _ (List.mem_append_left _ (List.mem_of_getElem? (i := 4) rfl)))))))))))), (fun _ h => absurd h List.not_mem_nil)⟩)⟩)⟩)⟩)⟩)⟩)⟩) (fun _ h => List.mem_cons_of_mem _ (List.mem_append_left _ (List.mem_append_left _ (List.mem_append_left _ (List.mem_append_right _ (h)))))))⟩)) (by decide +kernel)
set_option maxRecDepth 20000 in
theorem gX10_init_X7_init_n49 : GoodIn wsX10_init (wsX7_init) := ggX10_init_X7_init
set_option maxRecDepth 20000 in
theorem ggX10_init_X4_init : GoodIn wsX10_init wsX4_init := goodIn_sub (show ∀ w ∈ wsX4_init, w ∈ wsX10_init from (List.forall_mem_cons.mpr ⟨List.mem_cons_of_mem _ (List.mem_append_left _ (List.mem_append_left _ (List.mem_append_left _ (List.mem_append_left _ (List.mem_append_left _ (List.mem_append_left _ (List.mem_append_left _ (List.mem_append_right _ (List.mem_append_right _ (List.mem_append_right _ (List.mem_append_left _ (List.mem_of_getElem? (i := 7) rfl)))))))))))), (gw_a (List.forall_mem_cons.mpr ⟨List.mem_cons_of_mem _ (List.mem_append_left _ (List.mem_append_left _ (List.mem_append_left _ (List.mem_append_left _ (List.mem_append_left _ (List.mem_append_left _ (List.mem_append_left _ (List.mem_append_right _ (List.mem_append_right _ (List.mem_append_right _ (List.mem_append_left _ (List.mem_of_getElem? (i := 8) rfl)))))))))))), (List.forall_mem_cons.mpr ⟨List.mem_cons_of_mem _ (List.mem_append_left _ (List.mem_append_left _ (List.mem_append_left _ (List.mem_append_left _ (List.mem_append_left _ (List.mem_append_left _ (List.mem_append_left _ (List.mem_append_left _ (List.mem_of_getElem? (i := 1) rfl))))))))), (List.forall_mem_cons.mpr ⟨List.mem_cons_of_mem _ (List.mem_append_left _ (List.mem_append_left _ (List.mem_append_left _ (List.mem_append_left _ (List.mem_append_left _ (List.mem_append_left _ (List.mem_append_left _ (List.mem_append_left _ (List.mem_of_getElem? (i := 2) rfl))))))))), (List.forall_mem_cons.mpr ⟨List.mem_cons_of_mem _ (List.mem_append_left _ (List.mem_append_left _ (List.mem_append_left _ (List.mem_append_left _ (List.mem_append_left _ (List.mem_append_left _ (List.mem_append_left _ (List.mem_append_right _ (List.mem_append_left _ (List.mem_of_getElem? (i := 3) rfl)))))))))), (List.forall_mem_cons.mpr ⟨List.mem_cons_of_mem _ (List.mem_append_left _ (List.mem_append_left _ (List.mem_append_left _ (List.mem_append_left _ (List.mem_append_left _ (List.mem_append_left _ (List.mem_append_left _ (List.mem_append_right _ (List.mem_append_right _ (List.mem_append_right _ (List.mem_append_left _ (List.mem_of_getElem? (i := 9) rfl)))))))))))), (List.forall_mem_cons.mpr ⟨List.mem_cons_of_mem _ (List.mem_append_left _ (List.mem_append_left _ (List.mem_append_left _ (List.mem_append_left _ (List.mem_append_left _ (List.mem_append_left _ (List.mem_append_left _ (List.mem_append_right _ (List.mem_append_right _ (List.mem_append_right _ (List.mem_append_left _ (List.mem_of_getElem? (i := 10) rfl)))))))))))), (List.forall_mem_cons.mpr ⟨List.mem_cons_of_mem _ (List.mem_append_left _ (List.mem_append_left _ (List.mem_append_left _ (List.mem_append_left _ (List.mem_append_left _ (List.mem_append_left _ (List.mem_append_left _ (List.mem_append_right _ (List.mem_append_right _ (List.mem_append_right _ (List.mem_append_left _ (List.mem_of_getElem? (i := 11) rfl)))))))))))), (List.forall_mem_cons.mpr ⟨List.mem_cons_of_mem _ (List.mem_append_left _ (List.mem_append_left _ (List.mem_append_left _ (List.mem_append_left _ (List.mem_append_left _ (List.mem_append_left _ (List.mem_append_left _ (List.mem_append_right _ (List.mem_append_right _ (List.mem_append_right _ (List.mem_append_left _ (List.mem_of_getElem? (i := 12) rfl)))))))))))), (List.forall_mem_cons.mpr ⟨List.mem_cons_of_mem _ (List.mem_append_left _ (List.mem_append_left _ (List.mem_append_left _ (List.mem_append_left _ (List.mem_append_left _ (List.mem_append_left _ (List.mem_append_left _ (List.mem_append_right _ (List.mem_append_right _ (List.mem_append_right _ (List.mem_append_left _ (List.mem_of_getElem? (i := 13) rfl)))))))))))), (List.forall_mem_cons.mpr ⟨List.mem_cons_of_mem _ (List.mem_append_left _ (List.mem_append_left _ (List.mem_append_left _ (List.mem_append_left _ (List.mem_append_left _ (List.mem_append_left _ (List.mem_append_left _ (List.mem_append_right _ (List.mem_append_right _ (List.mem_append_right _ (List.mem_append_left _ (List.mem_of_getElem? (i := 14) rfl)))))))))))), (List.forall_mem_cons.mpr ⟨List.mem_cons_of_mem _ (List.mem_append_left _ (List.mem_append_left _ (List.mem_append_left _ (List.mem_append_left _ (List.mem_append_left _ (List.mem_append_left _ (List.mem_append_left _ (List.mem_append_right _ (List.mem_append_right _ (List.mem_append_right _ (List.mem_append_left _ (List.mem_of_getElem? (i := 15) rfl)))))))))))), (List.forall_mem_cons.mpr ⟨List.mem_cons_of_mem _ (List.mem_append_left _ (List.mem_append_left _ (List.mem_append_left _ (List.mem_append_left _ (List.mem_append_left _ (List.mem_append_left _ (List.mem_append_left _ (List.mem_append_right _ (List.mem_append_right _ (List.mem_append_right _ (List.mem_append_left _ (List.mem_of_getElem? (i := 16) rfl)))))))))))), (List.forall_mem_cons.mpr ⟨List.mem_cons_of_mem _ (List.mem_append_left _ (List.mem_append_left _ (List.mem_append_left _ (List.mem_append_left _ (List.mem_append_left _ (List.mem_append_left _ (List.mem_append_left _ (List.mem_append_right _ (List.mem_append_right _ (List.mem_append_right _ (List.mem_append_left _ (List.mem_of_getElem? (i := 17) rfl)))))))))))), (List.forall_mem_cons.mpr ⟨List.mem_cons_of_mem _ (List.mem_append_left _ (List.mem_append_left _ (List.mem_append_left _ (List.mem_append_left _ (List.mem_append_left _ (List.mem_append_left _ (List.mem_append_left _ (List.mem_append_right _ (List.mem_append_right _ (List.mem_append_right _ (List.mem_append_left _ (List.mem_of_getElem? (i := 18) rfl)))))))))))), (List.forall_mem_cons.mpr ⟨List.mem_cons_of_mem _ (List.mem_append_left _ (List.mem_append_left _ (List.mem_append_left _ (List.mem_append_left _ (List.mem_append_left _ (List.mem_append_left _ (List.mem_append_left _ (List.mem_append_right _ (List.mem_append_right _ (List.mem_append_right _ (List.mem_append_left _ (List.mem_of_getElem? (i := 19) rfl)))))))))))), (List.forall_mem_cons.mpr ⟨List.mem_cons_of_mem _ (List.mem_append_left _ (List.mem_append_left _ (List.mem_append_left _ (List.mem_append_left _ (List.mem_append_left _ (List.mem_append_left _ (List.mem_append_left _ (List.mem_append_right _ (List.mem_append_right _ (List.mem_append_right _ (List.mem_append_left _ (List.mem_of_getElem? (i := 20) rfl)))))))))))), (List.forall_mem_cons.mpr ⟨List.mem_cons_of_mem _ (List.mem_append_left _ (List.mem_append_left _ (List.mem_append_left _ (List.mem_append_left _ (List.mem_append_left _ (List.mem_append_left _ (List.mem_append_left _ (List.mem_append_right _ (List.mem_append_right _ (List.mem_append_left _ (List.mem_of_getElem? (i := 1) rfl))))))))))), (List.forall_mem_cons.mpr ⟨List.mem_cons_of_mem _ (List.mem_append_left _ (List.mem_append_left _ (List.mem_append_left _ (List.mem_append_left _ (List.mem_append_left _ (List.mem_append_left _ (List.mem_append_left _ (List.mem_append_right _ (List.mem_append_right _ (List.mem_append_left _ (List.mem_of_getElem? (i := 2) rfl))))))))))), (List.forall_mem_cons.mpr ⟨List.mem_cons_of_mem _ (List.mem_append_left _ (List.mem_append_left _ (List.mem_append_left _ (List.mem_append_left _ (List.mem_append_left _ (List.mem_append_left _ (List.mem_append_left _ (List.mem_append_right _ (List.mem_append_right _ (List.mem_append_left _ (List.mem_of_getElem? (i := 3) rfl))))))))))), (fun _ h => absurd h List.not_mem_nil)⟩)⟩)⟩)⟩)⟩)⟩)⟩)⟩)⟩)⟩)⟩)⟩)⟩)⟩)⟩)⟩)⟩)⟩)⟩) (fun _ h => List.mem_cons_of_mem _ (List.mem_append_left _ (List.mem_append_left _ (List.mem_append_right _ (h))))))⟩)) (by decide +kernel)
set_option maxRecDepth 20000 in
theorem gX10_init_X4_init : GoodIn wsX10_init (wsX4_init) := ggX10_init_X4_init
set_option maxRecDepth 20000 in
theorem ggX10_init_X1_init : GoodIn wsX10_init wsX1_init := goodIn_sub (show ∀ w ∈ wsX1_init, w ∈ wsX10_init from (List.forall_mem_cons.mpr ⟨List.mem_cons_of_mem _ (List.mem_append_left _ (List.mem_append_left _ (List.mem_append_left _ (List.mem_append_left _ (List.mem_append_left _ (List.mem_append_left _ (List.mem_append_left _ (List.mem_append_right _ (List.mem_append_right _ (List.mem_append_left _ (List.mem_of_getElem? (i := 13) rfl))))))))))), (gw_a (List.forall_mem_cons.mpr ⟨List.mem_cons_of_mem _ (List.mem_append_left _ (List.mem_append_left _ (List.mem_append_left _ (List.mem_append_left _ (List.mem_append_left _ (List.mem_append_left _ (List.mem_append_left _ (List.mem_append_right _ (List.mem_append_right _ (List.mem_append_left _ (List.mem_of_getElem? (i := 14) rfl))))))))))), (List.forall_mem_cons.mpr ⟨List.mem_cons_of_mem _ (List.mem_append_left _ (List.mem_append_left _ (List.mem_append_left _ (List.mem_append_left _ (List.mem_append_left _ (List.mem_append_left _ (List.mem_append_left _ (List.mem_append_left _ (List.mem_of_getElem? (i := 1) rfl))))))))), (List.forall_mem_cons.mpr ⟨List.mem_cons_of_mem _ (List.mem_append_left _ (List.mem_append_left _ (List.mem_append_left _ (List.mem_append_left _ (List.mem_append_left _ (List.mem_append_left _ (List.mem_append_left _ (List.mem_append_left _ (List.mem_of_getElem? (i := 2) rfl))))))))), (List.forall_mem_cons.mpr ⟨List.mem_cons_of_mem _ (List.mem_append_left _ (List.mem_append_left _ (List.mem_append_left _ (List.mem_append_left _ (List.mem_append_left _ (List.mem_append_left _ (List.mem_append_left _ (List.mem_append_right _ (List.mem_append_left _ (List.mem_of_getElem? (i := 3) rfl)))))))))), (List.forall_mem_cons.mpr ⟨List.mem_cons_of_mem _ (List.mem_append_left _ (List.mem_append_left _ (List.mem_append_left _ (List.mem_append_left _ (List.mem_append_left _ (List.mem_append_left _ (List.mem_append_left _ (List.mem_append_right _ (List.mem_append_right _ (List.mem_append_left _ (List.mem_of_getElem? (i := 15) rfl))))))))))), (List.forall_mem_cons.mpr ⟨List.mem_cons_of_mem _ (List.mem_append_left _ (List.mem_append_left _ (List.mem_append_left _ (List.mem_append_left _ (List.mem_append_left _ (List.mem_append_left _ (List.mem_append_left _ (List.mem_append_right _ (List.mem_append_right _ (List.mem_append_left _ (List.mem_of_getElem? (i := 16) rfl))))))))))), (List.forall_mem_cons.mpr ⟨List.mem_cons_of_mem _ (List.mem_append_left _ (List.mem_append_left _ (List.mem_append_left _ (List.mem_append_left _ (List.mem_append_left _ (List.mem_append_left _ (List.mem_append_left _ (List.mem_append_right _ (List.mem_append_right _ (List.mem_append_left _ (List.mem_of_getElem? (i := 17) rfl))))))))))), (List.forall_mem_cons.mpr ⟨List.mem_cons_of_mem _ (List.mem_append_left _ (List.mem_append_left _ (List.mem_append_left _ (List.mem_append_left _ (List.mem_append_left _ (List.mem_append_left _ (List.mem_append_left _ (List.mem_append_right _ (List.mem_append_right _ (List.mem_append_left _ (List.mem_of_getElem? (i := 18) rfl))))))))))), (List.forall_mem_cons.mpr ⟨List.mem_cons_of_mem _ (List.mem_append_left _ (List.mem_append_left _ (List.mem_append_left _ (List.mem_append_left _ (List.mem_append_left _ (List.mem_append_left _ (List.mem_append_left _ (List.mem_append_right _ (List.mem_append_right _ (List.mem_append_left _ (List.mem_of_getElem? (i := 19) rfl))))))))))), (List.forall_mem_cons.mpr ⟨List.mem_cons_of_mem _ (List.mem_append_left _ (List.mem_append_left _ (List.mem_append_left _ (List.mem_append_left _ (List.mem_append_left _ (List.mem_append_left _ (List.mem_append_left _ (List.mem_append_right _ (List.mem_append_right _ (List.mem_append_left _ (List.mem_of_getElem? (i := 20) rfl))))))))))), (List.forall_mem_cons.mpr ⟨List.mem_cons_of_mem _ (List.mem_append_left _ (List.mem_append_left _ (List.mem_append_left _ (List.mem_append_left _ (List.mem_append_left _ (List.mem_append_left _ (List.mem_append_left _ (List.mem_append_right _ (List.mem_append_right _ (List.mem_append_left _ (List.mem_of_getElem? (i := 21) rfl))))))))))), (fun _ h => absurd h List.not_mem_nil)⟩)⟩)⟩)⟩)⟩)⟩)⟩)⟩)⟩)⟩)⟩) (fun _ h => List.mem_cons_of_mem _ (List.mem_append_left _ (List.mem_append_right _ (h)))))⟩)) (by decide +kernel)
set_option maxRecDepth 20000 in
theorem gX10_init_X1_init_n67 : GoodIn wsX10_init (wsX1_init) := ggX10_init_X1_init
set_option maxRecDepth 20000 in
theorem ggX10_init_X2_init : GoodIn wsX10_init wsX2_init := goodIn_sub (show ∀ w ∈ wsX2_init, w ∈ wsX10_init from (List.forall_mem_cons.mpr ⟨List.mem_cons_of_mem _ (List.mem_append_left _ (List.mem_append_left _ (List.mem_append_left _ (List.mem_append_left _ (List.mem_append_left _ (List.mem_append_left _ (List.mem_append_left _ (List.mem_append_right _ (List.mem_append_right _ (List.mem_append_right _ (List.mem_append_left _ (List.mem_of_getElem? (i := 23) rfl)))))))))))), (gw_a (List.forall_mem_cons.mpr ⟨List.mem_cons_of_mem _ (List.mem_append_left _ (List.mem_append_left _ (List.mem_append_left _ (List.mem_append_left _ (List.mem_append_left _ (List.mem_append_left _ (List.mem_append_left _ (List.mem_append_right _ (List.mem_append_right _ (List.mem_append_right _ (List.mem_append_right _ (List.mem_of_getElem? (i := 0) rfl)))))))))))), (List.forall_mem_cons.mpr ⟨List.mem_cons_of_mem _ (List.mem_append_left _ (List.mem_append_left _ (List.mem_append_left _ (List.mem_append_left _ (List.mem_append_left _ (List.mem_append_left _ (List.mem_append_left _ (List.mem_append_left _ (List.mem_of_getElem? (i := 1) rfl))))))))), (List.forall_mem_cons.mpr ⟨List.mem_cons_of_mem _ (List.mem_append_left _ (List.mem_append_left _ (List.mem_append_left _ (List.mem_append_left _ (List.mem_append_left _ (List.mem_append_left _ (List.mem_append_left _ (List.mem_append_left _ (List.mem_of_getElem? (i := 2) rfl))))))))), (List.forall_mem_cons.mpr ⟨List.mem_cons_of_mem _ (List.mem_append_left _ (List.mem_append_left _ (List.mem_append_left _ (List.mem_append_left _ (List.mem_append_left _ (List.mem_append_left _ (List.mem_append_left _ (List.mem_append_right _ (List.mem_append_left _ (List.mem_of_getElem? (i := 3) rfl)))))))))), (List.forall_mem_cons.mpr ⟨List.mem_cons_of_mem _ (List.mem_append_left _ (List.mem_append_left _ (List.mem_append_left _ (List.mem_append_left _ (List.mem_append_left _ (List.mem_append_left _ (List.mem_append_left _ (List.mem_append_right _ (List.mem_append_right _ (List.mem_append_right _ (List.mem_append_right _ (List.mem_of_getElem? (i := 1) rfl)))))))))))), (List.forall_mem_cons.mpr ⟨List.mem_cons_of_mem _ (List.mem_append_left _ (List.mem_append_left _ (List.mem_append_left _ (List.mem_append_left _ (List.mem_append_left _ (List.mem_append_left _ (List.mem_append_left _ (List.mem_append_right _ (List.mem_append_right _ (List.mem_append_right _ (List.mem_append_right _ (List.mem_of_getElem? (i := 2) rfl)))))))))))), (List.forall_mem_cons.mpr ⟨List.mem_cons_of_mem _ (List.mem_append_left _ (List.mem_append_left _ (List.mem_append_left _ (List.mem_append_left _ (List.mem_append_left _ (List.mem_append_left _ (List.mem_append_left _ (List.mem_append_right _ (List.mem_append_right _ (List.mem_append_right _ (List.mem_append_right _ (List.mem_of_getElem? (i := 3) rfl)))))))))))), (List.forall_mem_cons.mpr ⟨List.mem_cons_of_mem _ (List.mem_append_left _ (List.mem_append_left _ (List.mem_append_left _ (List.mem_append_left _ (List.mem_append_left _ (List.mem_append_left _ (List.mem_append_left _ (List.mem_append_right _ (List.mem_append_right _ (List.mem_append_right _ (List.mem_append_right _ (List.mem_of_getElem? (i := 4) rfl)))))))))))), (List.forall_mem_cons.mpr ⟨List.mem_cons_of_mem _ (List.mem_append_left _ (List.mem_append_left _ (List.mem_append_left _ (List.mem_append_left _ (List.mem_append_left _ (List.mem_append_left _ (List.mem_append_left _ (List.mem_append_right _ (List.mem_append_left _ (List.mem_of_getElem? (i := 11) rfl)))))))))), (List.forall_mem_cons.mpr ⟨List.mem_cons_of_mem _ (List.mem_append_left _ (List.mem_append_left _ (List.mem_append_left _ (List.mem_append_left _ (List.mem_append_left _ (List.mem_append_left _ (List.mem_append_left _ (List.mem_append_right _ (List.mem_append_right _ (List.mem_append_right _ (List.mem_append_right _ (List.mem_of_getElem? (i := 5) rfl)))))))))))), (List.forall_mem_cons.mpr ⟨List.mem_cons_of_mem _ (List.mem_append_left _ (List.mem_append_left _ (List.mem_append_left _ (List.mem_append_left _ (List.mem_append_left _ (List.mem_append_left _ (List.mem_append_left _ (List.mem_append_right _ (List.mem_append_right _ (List.mem_append_right _ (List.mem_append_right _ (List.mem_of_getElem? (i := 6) rfl)))))))))))), (List.forall_mem_cons.mpr ⟨List.mem_cons_of_mem _ (List.mem_append_left _ (List.mem_append_left _ (List.mem_append_left _ (List.mem_append_left _ (List.mem_append_left _ (List.mem_append_left _ (List.mem_append_left _ (List.mem_append_right _ (List.mem_append_right _ (List.mem_append_right _ (List.mem_append_right _ (List.mem_of_getElem? (i := 7) rfl)))))))))))), (fun _ h => absurd h List.not_mem_nil)⟩)⟩)⟩)⟩)⟩)⟩)⟩)⟩)⟩)⟩)⟩)⟩) (fun _ h => List.mem_cons_of_mem _ (List.mem_append_right _ (h))))⟩)) (by decide +kernel)
set_option maxRecDepth 20000 in
theorem gX10_init_X2_init : GoodIn wsX10_init (wsX2_init) := ggX10_init_X2_init
theorem dX10_init_0 : decode cX10_init 0 = .ok (.aload_n 0, 1) := by decide +kernel
theorem dX10_init_1 : decode cX10_init 1 = .ok (.invokespecial 1, 3) := by decide +kernel
theorem dX10_init_4 : decode cX10_init 4 = .ok (.aload_n 0, 1) := by decide +kernel
theorem dX10_init_5 : decode cX10_init 5 = .ok (.new 7, 3) := by decide +kernel
theorem dX10_init_8 : decode cX10_init 8 = .ok (.dup, 1) := by decide +kernel
theorem dX10_init_9 : decode cX10_init 9 = .ok (.invokespecial 9, 3) := by decide +kernel
theorem dX10_init_12 : decode cX10_init 12 = .ok (.putfield 10, 3) := by decide +kernel
theorem dX10_init_15 : decode cX10_init 15 = .ok (.aload_n 0, 1) := by decide +kernel
theorem dX10_init_16 : decode cX10_init 16 = .ok (.bipush 12, 2) := by decide +kernel
theorem dX10_init_18 : decode cX10_init 18 = .ok (.anewarray 16, 3) := by decide +kernel
theorem dX10_init_21 : decode cX10_init 21 = .ok (.putfield 18, 3) := by decide +kernel
theorem dX10_init_24 : decode cX10_init 24 = .ok (.iconst 0, 1) := by decide +kernel
theorem dX10_init_25 : decode cX10_init 25 = .ok (.istore_n 1, 1) := by decide +kernel
theorem dX10_init_26 : decode cX10_init 26 = .ok (.iload_n 1, 1) := by decide +kernel
theorem dX10_init_27 : decode cX10_init 27 = .ok (.bipush 12, 2) := by decide +kernel
theorem dX10_init_29 : decode cX10_init 29 = .ok (.if_icmp .ge 22, 3) := by decide +kernel
theorem dX10_init_32 : decode cX10_init 32 = .ok (.aload_n 0, 1) := by decide +kernel
theorem dX10_init_33 : decode cX10_init 33 = .ok (.getfield 18, 3) := by decide +kernel
theorem dX10_init_36 : decode cX10_init 36 = .ok (.iload_n 1, 1) := by decide +kernel
theorem dX10_init_37 : decode cX10_init 37 = .ok (.new 16, 3) := by decide +kernel
theorem dX10_init_40 : decode cX10_init 40 = .ok (.dup, 1) := by decide +kernel
theorem dX10_init_41 : decode cX10_init 41 = .ok (.invokespecial 22, 3) := by decide +kernel
theorem dX10_init_44 : decode cX10_init 44 = .ok (.aastore, 1) := by decide +kernel
theorem dX10_init_45 : decode cX10_init 45 = .ok (.iinc 1 1, 3) := by decide +kernel
theorem dX10_init_48 : decode cX10_init 48 = .ok (.goto (-22), 3) := by decide +kernel
theorem dX10_init_51 : decode cX10_init 51 = .ok (.aload_n 0, 1) := by decide +kernel
theorem dX10_init_52 : decode cX10_init 52 = .ok (.bipush 30, 2) := by decide +kernel
theorem dX10_init_54 : decode cX10_init 54 = .ok (.anewarray 23, 3) := by decide +kernel
theorem dX10_init_57 : decode cX10_init 57 = .ok (.putfield 25, 3) := by decide +kernel
theorem dX10_init_60 : decode cX10_init 60 = .ok (.aload_n 0, 1) := by decide +kernel
theorem dX10_init_61 : decode cX10_init 61 = .ok (.bipush 60, 2) := by decide +kernel
