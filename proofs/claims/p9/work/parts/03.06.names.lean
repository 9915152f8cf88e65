theorem chX11_law_4_06 : ((cX11_law.data.toList.drop 64).take 16).map UInt8.toNat = [7, 4, 167, 0, 4, 3, 60, 27, 153, 0, 74, 42, 180, 0, 204, 154] := by decide +kernel
theorem dX11_law_75 : decode cX11_law 75 = .ok (.aload_n 0, 1) := dk42 (rd_c chX11_law_4_06 (j := 11) rfl rfl)
theorem dX11_law_76 : decode cX11_law 76 = .ok (.getfield 204, 3) := dk180 (rd_c chX11_law_4_06 (j := 12) rfl rfl) (rd_c chX11_law_4_06 (j := 13) rfl rfl) (rd_c chX11_law_4_06 (j := 14) rfl rfl) rfl
theorem chX11_law_5_06 : ((cX11_law.data.toList.drop 80).take 16).map UInt8.toNat = [0, 67, 42, 182, 1, 44, 42, 180, 0, 204, 154, 0, 14, 42, 182, 0] := by decide +kernel
theorem dX11_law_79 : decode cX11_law 79 = .ok (.ifCond .ne 67, 3) := dk154 (rd_c chX11_law_4_06 (j := 15) rfl rfl) (rd_c chX11_law_5_06 (j := 0) rfl rfl) (rd_c chX11_law_5_06 (j := 1) rfl rfl) rfl
theorem dX11_law_82 : decode cX11_law 82 = .ok (.aload_n 0, 1) := dk42 (rd_c chX11_law_5_06 (j := 2) rfl rfl)
theorem dX11_law_83 : decode cX11_law 83 = .ok (.invokevirtual 300, 3) := dk182 (rd_c chX11_law_5_06 (j := 3) rfl rfl) (rd_c chX11_law_5_06 (j := 4) rfl rfl) (rd_c chX11_law_5_06 (j := 5) rfl rfl) rfl
theorem dX11_law_86 : decode cX11_law 86 = .ok (.aload_n 0, 1) := dk42 (rd_c chX11_law_5_06 (j := 6) rfl rfl)
theorem dX11_law_87 : decode cX11_law 87 = .ok (.getfield 204, 3) := dk180 (rd_c chX11_law_5_06 (j := 7) rfl rfl) (rd_c chX11_law_5_06 (j := 8) rfl rfl) (rd_c chX11_law_5_06 (j := 9) rfl rfl) rfl
theorem dX11_law_90 : decode cX11_law 90 = .ok (.ifCond .ne 14, 3) := dk154 (rd_c chX11_law_5_06 (j := 10) rfl rfl) (rd_c chX11_law_5_06 (j := 11) rfl rfl) (rd_c chX11_law_5_06 (j := 12) rfl rfl) rfl
theorem dX11_law_93 : decode cX11_law 93 = .ok (.aload_n 0, 1) := dk42 (rd_c chX11_law_5_06 (j := 13) rfl rfl)
theorem chX11_law_6_06 : ((cX11_law.data.toList.drop 96).take 16).map UInt8.toNat = [213, 154, 0, 7, 4, 167, 0, 4, 3, 60, 27, 153, 255, 220, 42, 180] := by decide +kernel
theorem dX11_law_94 : decode cX11_law 94 = .ok (.invokevirtual 213, 3) := dk182 (rd_c chX11_law_5_06 (j := 14) rfl rfl) (rd_c chX11_law_5_06 (j := 15) rfl rfl) (rd_c chX11_law_6_06 (j := 0) rfl rfl) rfl
theorem dX11_law_97 : decode cX11_law 97 = .ok (.ifCond .ne 7, 3) := dk154 (rd_c chX11_law_6_06 (j := 1) rfl rfl) (rd_c chX11_law_6_06 (j := 2) rfl rfl) (rd_c chX11_law_6_06 (j := 3) rfl rfl) rfl
theorem dX11_law_100 : decode cX11_law 100 = .ok (.iconst 1, 1) := dk4 (rd_c chX11_law_6_06 (j := 4) rfl rfl)
theorem dX11_law_101 : decode cX11_law 101 = .ok (.goto 4, 3) := dk167 (rd_c chX11_law_6_06 (j := 5) rfl rfl) (rd_c chX11_law_6_06 (j := 6) rfl rfl) (rd_c chX11_law_6_06 (j := 7) rfl rfl) rfl
theorem dX11_law_104 : decode cX11_law 104 = .ok (.iconst 0, 1) := dk3 (rd_c chX11_law_6_06 (j := 8) rfl rfl)
theorem dX11_law_105 : decode cX11_law 105 = .ok (.istore_n 1, 1) := dk60 (rd_c chX11_law_6_06 (j := 9) rfl rfl)
theorem dX11_law_106 : decode cX11_law 106 = .ok (.iload_n 1, 1) := dk27 (rd_c chX11_law_6_06 (j := 10) rfl rfl)
theorem dX11_law_107 : decode cX11_law 107 = .ok (.ifCond .eq (-36), 3) := dk153 (rd_c chX11_law_6_06 (j := 11) rfl rfl) (rd_c chX11_law_6_06 (j := 12) rfl rfl) (rd_c chX11_law_6_06 (j := 13) rfl rfl) rfl
theorem dX11_law_110 : decode cX11_law 110 = .ok (.aload_n 0, 1) := dk42 (rd_c chX11_law_6_06 (j := 14) rfl rfl)
theorem chX11_law_7_06 : ((cX11_law.data.toList.drop 112).take 16).map UInt8.toNat = [0, 70, 42, 180, 0, 207, 51, 16, 59, 159, 0, 12, 42, 3, 42, 180] := by decide +kernel
theorem dX11_law_111 : decode cX11_law 111 = .ok (.getfield 70, 3) := dk180 (rd_c chX11_law_6_06 (j := 15) rfl rfl) (rd_c chX11_law_7_06 (j := 0) rfl rfl) (rd_c chX11_law_7_06 (j := 1) rfl rfl) rfl
theorem dX11_law_114 : decode cX11_law 114 = .ok (.aload_n 0, 1) := dk42 (rd_c chX11_law_7_06 (j := 2) rfl rfl)
theorem dX11_law_115 : decode cX11_law 115 = .ok (.getfield 207, 3) := dk180 (rd_c chX11_law_7_06 (j := 3) rfl rfl) (rd_c chX11_law_7_06 (j := 4) rfl rfl) (rd_c chX11_law_7_06 (j := 5) rfl rfl) rfl
theorem dX11_law_118 : decode cX11_law 118 = .ok (.baload, 1) := dk51 (rd_c chX11_law_7_06 (j := 6) rfl rfl)
theorem dX11_law_119 : decode cX11_law 119 = .ok (.bipush 59, 2) := dk16 (rd_c chX11_law_7_06 (j := 7) rfl rfl) (rd_c chX11_law_7_06 (j := 8) rfl rfl) rfl
theorem dX11_law_121 : decode cX11_law 121 = .ok (.if_icmp .eq 12, 3) := dk159 (rd_c chX11_law_7_06 (j := 9) rfl rfl) (rd_c chX11_law_7_06 (j := 10) rfl rfl) (rd_c chX11_law_7_06 (j := 11) rfl rfl) rfl
theorem dX11_law_124 : decode cX11_law 124 = .ok (.aload_n 0, 1) := dk42 (rd_c chX11_law_7_06 (j := 12) rfl rfl)
theorem dX11_law_125 : decode cX11_law 125 = .ok (.iconst 0, 1) := dk3 (rd_c chX11_law_7_06 (j := 13) rfl rfl)
theorem dX11_law_126 : decode cX11_law 126 = .ok (.aload_n 0, 1) := dk42 (rd_c chX11_law_7_06 (j := 14) rfl rfl)
theorem chX11_law_8_06 : ((cX11_law.data.toList.drop 128).take 16).map UInt8.toNat = [0, 207, 182, 0, 220, 42, 89, 180, 0, 207, 4, 96, 181, 0, 207, 167] := by decide +kernel
theorem dX11_law_127 : decode cX11_law 127 = .ok (.getfield 207, 3) := dk180 (rd_c chX11_law_7_06 (j := 15) rfl rfl) (rd_c chX11_law_8_06 (j := 0) rfl rfl) (rd_c chX11_law_8_06 (j := 1) rfl rfl) rfl
theorem dX11_law_130 : decode cX11_law 130 = .ok (.invokevirtual 220, 3) := dk182 (rd_c chX11_law_8_06 (j := 2) rfl rfl) (rd_c chX11_law_8_06 (j := 3) rfl rfl) (rd_c chX11_law_8_06 (j := 4) rfl rfl) rfl
theorem dX11_law_133 : decode cX11_law 133 = .ok (.aload_n 0, 1) := dk42 (rd_c chX11_law_8_06 (j := 5) rfl rfl)
theorem dX11_law_134 : decode cX11_law 134 = .ok (.dup, 1) := dk89 (rd_c chX11_law_8_06 (j := 6) rfl rfl)
theorem dX11_law_135 : decode cX11_law 135 = .ok (.getfield 207, 3) := dk180 (rd_c chX11_law_8_06 (j := 7) rfl rfl) (rd_c chX11_law_8_06 (j := 8) rfl rfl) (rd_c chX11_law_8_06 (j := 9) rfl rfl) rfl
theorem dX11_law_138 : decode cX11_law 138 = .ok (.iconst 1, 1) := dk4 (rd_c chX11_law_8_06 (j := 10) rfl rfl)
theorem dX11_law_139 : decode cX11_law 139 = .ok (.iadd, 1) := dk96 (rd_c chX11_law_8_06 (j := 11) rfl rfl)
theorem dX11_law_140 : decode cX11_law 140 = .ok (.putfield 207, 3) := dk181 (rd_c chX11_law_8_06 (j := 12) rfl rfl) (rd_c chX11_law_8_06 (j := 13) rfl rfl) (rd_c chX11_law_8_06 (j := 14) rfl rfl) rfl
theorem chX11_law_9_06 : ((cX11_law.data.toList.drop 144).take 16).map UInt8.toNat = [255, 184, 42, 3, 181, 0, 197, 42, 180, 0, 204, 154, 0, 28, 3, 61] := by decide +kernel
theorem dX11_law_143 : decode cX11_law 143 = .ok (.goto (-72), 3) := dk167 (rd_c chX11_law_8_06 (j := 15) rfl rfl) (rd_c chX11_law_9_06 (j := 0) rfl rfl) (rd_c chX11_law_9_06 (j := 1) rfl rfl) rfl
theorem dX11_law_146 : decode cX11_law 146 = .ok (.aload_n 0, 1) := dk42 (rd_c chX11_law_9_06 (j := 2) rfl rfl)
theorem dX11_law_147 : decode cX11_law 147 = .ok (.iconst 0, 1) := dk3 (rd_c chX11_law_9_06 (j := 3) rfl rfl)
theorem dX11_law_148 : decode cX11_law 148 = .ok (.putfield 197, 3) := dk181 (rd_c chX11_law_9_06 (j := 4) rfl rfl) (rd_c chX11_law_9_06 (j := 5) rfl rfl) (rd_c chX11_law_9_06 (j := 6) rfl rfl) rfl
theorem dX11_law_151 : decode cX11_law 151 = .ok (.aload_n 0, 1) := dk42 (rd_c chX11_law_9_06 (j := 7) rfl rfl)
theorem dX11_law_152 : decode cX11_law 152 = .ok (.getfield 204, 3) := dk180 (rd_c chX11_law_9_06 (j := 8) rfl rfl) (rd_c chX11_law_9_06 (j := 9) rfl rfl) (rd_c chX11_law_9_06 (j := 10) rfl rfl) rfl
theorem dX11_law_155 : decode cX11_law 155 = .ok (.ifCond .ne 28, 3) := dk154 (rd_c chX11_law_9_06 (j := 11) rfl rfl) (rd_c chX11_law_9_06 (j := 12) rfl rfl) (rd_c chX11_law_9_06 (j := 13) rfl rfl) rfl
theorem dX11_law_158 : decode cX11_law 158 = .ok (.iconst 0, 1) := dk3 (rd_c chX11_law_9_06 (j := 14) rfl rfl)
theorem dX11_law_159 : decode cX11_law 159 = .ok (.istore_n 2, 1) := dk61 (rd_c chX11_law_9_06 (j := 15) rfl rfl)
theorem chX11_law_10_06 : ((cX11_law.data.toList.drop 160).take 16).map UInt8.toNat = [28, 8, 162, 0, 21, 42, 180, 0, 92, 28, 42, 180, 0, 98, 28, 46] := by decide +kernel
theorem dX11_law_160 : decode cX11_law 160 = .ok (.iload_n 2, 1) := dk28 (rd_c chX11_law_10_06 (j := 0) rfl rfl)
theorem dX11_law_161 : decode cX11_law 161 = .ok (.iconst 5, 1) := dk8 (rd_c chX11_law_10_06 (j := 1) rfl rfl)
theorem dX11_law_162 : decode cX11_law 162 = .ok (.if_icmp .ge 21, 3) := dk162 (rd_c chX11_law_10_06 (j := 2) rfl rfl) (rd_c chX11_law_10_06 (j := 3) rfl rfl) (rd_c chX11_law_10_06 (j := 4) rfl rfl) rfl
theorem dX11_law_165 : decode cX11_law 165 = .ok (.aload_n 0, 1) := dk42 (rd_c chX11_law_10_06 (j := 5) rfl rfl)
theorem dX11_law_166 : decode cX11_law 166 = .ok (.getfield 92, 3) := dk180 (rd_c chX11_law_10_06 (j := 6) rfl rfl) (rd_c chX11_law_10_06 (j := 7) rfl rfl) (rd_c chX11_law_10_06 (j := 8) rfl rfl) rfl
theorem dX11_law_169 : decode cX11_law 169 = .ok (.iload_n 2, 1) := dk28 (rd_c chX11_law_10_06 (j := 9) rfl rfl)
theorem dX11_law_170 : decode cX11_law 170 = .ok (.aload_n 0, 1) := dk42 (rd_c chX11_law_10_06 (j := 10) rfl rfl)
theorem dX11_law_171 : decode cX11_law 171 = .ok (.getfield 98, 3) := dk180 (rd_c chX11_law_10_06 (j := 11) rfl rfl) (rd_c chX11_law_10_06 (j := 12) rfl rfl) (rd_c chX11_law_10_06 (j := 13) rfl rfl) rfl
theorem dX11_law_174 : decode cX11_law 174 = .ok (.iload_n 2, 1) := dk28 (rd_c chX11_law_10_06 (j := 14) rfl rfl)
theorem dX11_law_175 : decode cX11_law 175 = .ok (.iaload, 1) := dk46 (rd_c chX11_law_10_06 (j := 15) rfl rfl)
theorem chX11_law_11_06 : ((cX11_law.data.toList.drop 176).take 16).map UInt8.toNat = [79, 132, 2, 1, 167, 255, 236, 42, 180, 0, 204, 172] := by decide +kernel
theorem dX11_law_176 : decode cX11_law 176 = .ok (.iastore, 1) := dk79 (rd_c chX11_law_11_06 (j := 0) rfl rfl)
theorem dX11_law_177 : decode cX11_law 177 = .ok (.iinc 2 1, 3) := dk132 (rd_c chX11_law_11_06 (j := 1) rfl rfl) (rd_c chX11_law_11_06 (j := 2) rfl rfl) (rd_c chX11_law_11_06 (j := 3) rfl rfl) rfl
theorem dX11_law_180 : decode cX11_law 180 = .ok (.goto (-20), 3) := dk167 (rd_c chX11_law_11_06 (j := 4) rfl rfl) (rd_c chX11_law_11_06 (j := 5) rfl rfl) (rd_c chX11_law_11_06 (j := 6) rfl rfl) rfl
theorem dX11_law_183 : decode cX11_law 183 = .ok (.aload_n 0, 1) := dk42 (rd_c chX11_law_11_06 (j := 7) rfl rfl)
theorem dX11_law_184 : decode cX11_law 184 = .ok (.getfield 204, 3) := dk180 (rd_c chX11_law_11_06 (j := 8) rfl rfl) (rd_c chX11_law_11_06 (j := 9) rfl rfl) (rd_c chX11_law_11_06 (j := 10) rfl rfl) rfl
theorem dX11_law_187 : decode cX11_law 187 = .ok (.ireturn, 1) := dk172 (rd_c chX11_law_11_06 (j := 11) rfl rfl)
set_option maxRecDepth 20000 in
theorem ggX11_told_X11_isAdvised : GoodIn wsX11_told wsX11_isAdvised := goodIn_sub (show ∀ w ∈ wsX11_isAdvised, w ∈ wsX11_told from (List.forall_mem_cons.mpr ⟨List.mem_cons_of_mem _ (List.mem_append_left _ (List.mem_append_left _ (List.mem_of_getElem? (i := 11) rfl))), (gw_a (List.forall_mem_cons.mpr ⟨List.mem_cons_of_mem _ (List.mem_append_left _ (List.mem_append_left _ (List.mem_of_getElem? (i := 12) rfl))), (List.forall_mem_cons.mpr ⟨List.mem_cons_of_mem _ (List.mem_append_left _ (List.mem_append_left _ (List.mem_of_getElem? (i := 13) rfl))), (List.forall_mem_cons.mpr ⟨List.mem_cons_of_mem _ (List.mem_append_left _ (List.mem_append_left _ (List.mem_of_getElem? (i := 14) rfl))), (List.forall_mem_cons.mpr ⟨List.mem_cons_of_mem _ (List.mem_append_left _ (List.mem_append_left _ (List.mem_of_getElem? (i := 15) rfl))), (List.forall_mem_cons.mpr ⟨List.mem_cons_of_mem _ (List.mem_append_left _ (List.mem_append_left _ (List.mem_of_getElem? (i := 16) rfl))), (fun _ h => absurd h List.not_mem_nil)⟩)⟩)⟩)⟩)⟩) (fun _ h => List.mem_cons_of_mem _ (List.mem_append_right _ (h))))⟩)) (by decide +kernel)
set_option maxRecDepth 20000 in
theorem gX11_told_X11_isAdvised : GoodIn wsX11_told (wsV RX11 303 RX11 yX11_isAdvised wsX11_isAdvised) := goodIn_app (goodIn_sub (List.forall_mem_cons.mpr ⟨List.mem_cons_of_mem _ (List.mem_append_left _ (List.mem_append_left _ (List.mem_of_getElem? (i := 7) rfl))), (List.forall_mem_cons.mpr ⟨List.mem_cons_of_mem _ (List.mem_append_left _ (List.mem_append_left _ (List.mem_of_getElem? (i := 8) rfl))), (List.forall_mem_cons.mpr ⟨List.mem_cons_of_mem _ (List.mem_append_left _ (List.mem_append_left _ (List.mem_of_getElem? (i := 9) rfl))), (List.forall_mem_cons.mpr ⟨List.mem_cons_of_mem _ (List.mem_append_left _ (List.mem_append_left _ (List.mem_of_getElem? (i := 10) rfl))), (fun _ h => absurd h List.not_mem_nil)⟩)⟩)⟩)⟩) (by decide +kernel)) ggX11_told_X11_isAdvised
set_option maxRecDepth 20000 in
theorem ggX11_told_X11_unlike : GoodIn wsX11_told wsX11_unlike := goodIn_sub (show ∀ w ∈ wsX11_unlike, w ∈ wsX11_told from (List.forall_mem_cons.mpr ⟨List.mem_cons_of_mem _ (List.mem_append_left _ (List.mem_append_left _ (List.mem_of_getElem? (i := 19) rfl))), (fun _ h => absurd h List.not_mem_nil)⟩)) (by decide +kernel)
set_option maxRecDepth 20000 in
theorem gX11_told_X11_unlike : GoodIn wsX11_told (va_wsS RX11 306 yX11_unlike wsX11_unlike) := goodIn_app (goodIn_sub (List.forall_mem_cons.mpr ⟨List.mem_cons_of_mem _ (List.mem_append_left _ (List.mem_append_left _ (List.mem_of_getElem? (i := 17) rfl))), (List.forall_mem_cons.mpr ⟨List.mem_cons_of_mem _ (List.mem_append_left _ (List.mem_append_left _ (List.mem_of_getElem? (i := 18) rfl))), (List.forall_mem_cons.mpr ⟨List.mem_cons_of_mem _ (List.mem_append_left _ (List.mem_append_left _ (List.mem_of_getElem? (i := 10) rfl))), (fun _ h => absurd h List.not_mem_nil)⟩)⟩)⟩) (by decide +kernel)) ggX11_told_X11_unlike
set_option maxRecDepth 20000 in
theorem ggX11_told_X11_isStopped : GoodIn wsX11_told wsX11_isStopped := goodIn_sub (show ∀ w ∈ wsX11_isStopped, w ∈ wsX11_told from (List.forall_mem_cons.mpr ⟨List.mem_cons_of_mem _ (List.mem_append_left _ (List.mem_append_left _ (List.mem_of_getElem? (i := 23) rfl))), (gw_a (List.forall_mem_cons.mpr ⟨List.mem_cons_of_mem _ (List.mem_append_left _ (List.mem_append_right _ (List.mem_of_getElem? (i := 0) rfl))), (List.forall_mem_cons.mpr ⟨List.mem_cons_of_mem _ (List.mem_append_left _ (List.mem_append_right _ (List.mem_of_getElem? (i := 1) rfl))), (List.forall_mem_cons.mpr ⟨List.mem_cons_of_mem _ (List.mem_append_left _ (List.mem_append_right _ (List.mem_of_getElem? (i := 2) rfl))), (List.forall_mem_cons.mpr ⟨List.mem_cons_of_mem _ (List.mem_append_left _ (List.mem_append_right _ (List.mem_of_getElem? (i := 3) rfl))), (fun _ h => absurd h List.not_mem_nil)⟩)⟩)⟩)⟩) (fun _ h => List.mem_cons_of_mem _ (List.mem_append_right _ (h))))⟩)) (by decide +kernel)
set_option maxRecDepth 20000 in
theorem gX11_told_X11_isStopped : GoodIn wsX11_told (wsV RX11 310 RX11 yX11_isStopped wsX11_isStopped) := goodIn_app (goodIn_sub (List.forall_mem_cons.mpr ⟨List.mem_cons_of_mem _ (List.mem_append_left _ (List.mem_append_left _ (List.mem_of_getElem? (i := 20) rfl))), (List.forall_mem_cons.mpr ⟨List.mem_cons_of_mem _ (List.mem_append_left _ (List.mem_append_left _ (List.mem_of_getElem? (i := 21) rfl))), (List.forall_mem_cons.mpr ⟨List.mem_cons_of_mem _ (List.mem_append_left _ (List.mem_append_left _ (List.mem_of_getElem? (i := 22) rfl))), (List.forall_mem_cons.mpr ⟨List.mem_cons_of_mem _ (List.mem_append_left _ (List.mem_append_left _ (List.mem_of_getElem? (i := 10) rfl))), (fun _ h => absurd h List.not_mem_nil)⟩)⟩)⟩)⟩) (by decide +kernel)) ggX11_told_X11_isStopped
theorem chX11_told_0_06 : ((cX11_told.data.toList.drop 0).take 16).map UInt8.toNat = [27, 170, 0, 0, 0, 0, 0, 186, 0, 0, 0, 0, 0, 0, 0, 6] := by decide +kernel
theorem dX11_told_0 : decode cX11_told 0 = .ok (.iload_n 1, 1) := dk27 (rd_c chX11_told_0_06 (j := 0) rfl rfl)
theorem dX11_told_1 : decode cX11_told 1 = .ok (.tableswitch 186 0 6 #[43, 73, 92, 113, 125, 151, 154], 43) := by decide +kernel
theorem chX11_told_2_06 : ((cX11_told.data.toList.drop 32).take 16).map UInt8.toNat = [0, 0, 0, 125, 0, 0, 0, 151, 0, 0, 0, 154, 42, 29, 28, 42] := by decide +kernel
theorem dX11_told_44 : decode cX11_told 44 = .ok (.aload_n 0, 1) := dk42 (rd_c chX11_told_2_06 (j := 12) rfl rfl)
theorem dX11_told_45 : decode cX11_told 45 = .ok (.iload_n 3, 1) := dk29 (rd_c chX11_told_2_06 (j := 13) rfl rfl)
theorem dX11_told_46 : decode cX11_told 46 = .ok (.iload_n 2, 1) := dk28 (rd_c chX11_told_2_06 (j := 14) rfl rfl)
theorem dX11_told_47 : decode cX11_told 47 = .ok (.aload_n 0, 1) := dk42 (rd_c chX11_told_2_06 (j := 15) rfl rfl)
theorem chX11_told_3_06 : ((cX11_told.data.toList.drop 48).take 16).map UInt8.toNat = [180, 0, 167, 182, 1, 47, 153, 0, 17, 21, 6, 42, 180, 0, 33, 29] := by decide +kernel
theorem dX11_told_48 : decode cX11_told 48 = .ok (.getfield 167, 3) := dk180 (rd_c chX11_told_3_06 (j := 0) rfl rfl) (rd_c chX11_told_3_06 (j := 1) rfl rfl) (rd_c chX11_told_3_06 (j := 2) rfl rfl) rfl
theorem dX11_told_51 : decode cX11_told 51 = .ok (.invokevirtual 303, 3) := dk182 (rd_c chX11_told_3_06 (j := 3) rfl rfl) (rd_c chX11_told_3_06 (j := 4) rfl rfl) (rd_c chX11_told_3_06 (j := 5) rfl rfl) rfl
theorem dX11_told_54 : decode cX11_told 54 = .ok (.ifCond .eq 17, 3) := dk153 (rd_c chX11_told_3_06 (j := 6) rfl rfl) (rd_c chX11_told_3_06 (j := 7) rfl rfl) (rd_c chX11_told_3_06 (j := 8) rfl rfl) rfl
theorem dX11_told_57 : decode cX11_told 57 = .ok (.iload 6, 2) := dk21 (rd_c chX11_told_3_06 (j := 9) rfl rfl) (rd_c chX11_told_3_06 (j := 10) rfl rfl)
theorem dX11_told_59 : decode cX11_told 59 = .ok (.aload_n 0, 1) := dk42 (rd_c chX11_told_3_06 (j := 11) rfl rfl)
theorem dX11_told_60 : decode cX11_told 60 = .ok (.getfield 33, 3) := dk180 (rd_c chX11_told_3_06 (j := 12) rfl rfl) (rd_c chX11_told_3_06 (j := 13) rfl rfl) (rd_c chX11_told_3_06 (j := 14) rfl rfl) rfl
theorem dX11_told_63 : decode cX11_told 63 = .ok (.iload_n 3, 1) := dk29 (rd_c chX11_told_3_06 (j := 15) rfl rfl)
theorem chX11_told_4_06 : ((cX11_told.data.toList.drop 64).take 16).map UInt8.toNat = [46, 184, 1, 50, 167, 0, 5, 16, 99, 172, 42, 29, 28, 42, 180, 0] := by decide +kernel
theorem dX11_told_64 : decode cX11_told 64 = .ok (.iaload, 1) := dk46 (rd_c chX11_told_4_06 (j := 0) rfl rfl)
theorem dX11_told_65 : decode cX11_told 65 = .ok (.invokestatic 306, 3) := dk184 (rd_c chX11_told_4_06 (j := 1) rfl rfl) (rd_c chX11_told_4_06 (j := 2) rfl rfl) (rd_c chX11_told_4_06 (j := 3) rfl rfl) rfl
theorem dX11_told_68 : decode cX11_told 68 = .ok (.goto 5, 3) := dk167 (rd_c chX11_told_4_06 (j := 4) rfl rfl) (rd_c chX11_told_4_06 (j := 5) rfl rfl) (rd_c chX11_told_4_06 (j := 6) rfl rfl) rfl
theorem dX11_told_71 : decode cX11_told 71 = .ok (.bipush 99, 2) := dk16 (rd_c chX11_told_4_06 (j := 7) rfl rfl) (rd_c chX11_told_4_06 (j := 8) rfl rfl) rfl
theorem dX11_told_73 : decode cX11_told 73 = .ok (.ireturn, 1) := dk172 (rd_c chX11_told_4_06 (j := 9) rfl rfl)
theorem dX11_told_74 : decode cX11_told 74 = .ok (.aload_n 0, 1) := dk42 (rd_c chX11_told_4_06 (j := 10) rfl rfl)
theorem dX11_told_75 : decode cX11_told 75 = .ok (.iload_n 3, 1) := dk29 (rd_c chX11_told_4_06 (j := 11) rfl rfl)
theorem dX11_told_76 : decode cX11_told 76 = .ok (.iload_n 2, 1) := dk28 (rd_c chX11_told_4_06 (j := 12) rfl rfl)
theorem dX11_told_77 : decode cX11_told 77 = .ok (.aload_n 0, 1) := dk42 (rd_c chX11_told_4_06 (j := 13) rfl rfl)
theorem chX11_told_5_06 : ((cX11_told.data.toList.drop 80).take 16).map UInt8.toNat = [167, 182, 1, 47, 153, 0, 7, 4, 167, 0, 4, 3, 172, 42, 29, 21] := by decide +kernel
theorem dX11_told_78 : decode cX11_told 78 = .ok (.getfield 167, 3) := dk180 (rd_c chX11_told_4_06 (j := 14) rfl rfl) (rd_c chX11_told_4_06 (j := 15) rfl rfl) (rd_c chX11_told_5_06 (j := 0) rfl rfl) rfl
theorem dX11_told_81 : decode cX11_told 81 = .ok (.invokevirtual 303, 3) := dk182 (rd_c chX11_told_5_06 (j := 1) rfl rfl) (rd_c chX11_told_5_06 (j := 2) rfl rfl) (rd_c chX11_told_5_06 (j := 3) rfl rfl) rfl
theorem dX11_told_84 : decode cX11_told 84 = .ok (.ifCond .eq 7, 3) := dk153 (rd_c chX11_told_5_06 (j := 4) rfl rfl) (rd_c chX11_told_5_06 (j := 5) rfl rfl) (rd_c chX11_told_5_06 (j := 6) rfl rfl) rfl
theorem dX11_told_87 : decode cX11_told 87 = .ok (.iconst 1, 1) := dk4 (rd_c chX11_told_5_06 (j := 7) rfl rfl)
theorem dX11_told_88 : decode cX11_told 88 = .ok (.goto 4, 3) := dk167 (rd_c chX11_told_5_06 (j := 8) rfl rfl) (rd_c chX11_told_5_06 (j := 9) rfl rfl) (rd_c chX11_told_5_06 (j := 10) rfl rfl) rfl
theorem dX11_told_91 : decode cX11_told 91 = .ok (.iconst 0, 1) := dk3 (rd_c chX11_told_5_06 (j := 11) rfl rfl)
theorem dX11_told_92 : decode cX11_told 92 = .ok (.ireturn, 1) := dk172 (rd_c chX11_told_5_06 (j := 12) rfl rfl)
theorem dX11_told_93 : decode cX11_told 93 = .ok (.aload_n 0, 1) := dk42 (rd_c chX11_told_5_06 (j := 13) rfl rfl)
theorem dX11_told_94 : decode cX11_told 94 = .ok (.iload_n 3, 1) := dk29 (rd_c chX11_told_5_06 (j := 14) rfl rfl)
theorem chX11_told_6_06 : ((cX11_told.data.toList.drop 96).take 16).map UInt8.toNat = [4, 28, 42, 180, 0, 167, 182, 1, 54, 153, 0, 7, 4, 167, 0, 4] := by decide +kernel
theorem dX11_told_95 : decode cX11_told 95 = .ok (.iload 4, 2) := dk21 (rd_c chX11_told_5_06 (j := 15) rfl rfl) (rd_c chX11_told_6_06 (j := 0) rfl rfl)
theorem dX11_told_97 : decode cX11_told 97 = .ok (.iload_n 2, 1) := dk28 (rd_c chX11_told_6_06 (j := 1) rfl rfl)
theorem dX11_told_98 : decode cX11_told 98 = .ok (.aload_n 0, 1) := dk42 (rd_c chX11_told_6_06 (j := 2) rfl rfl)
theorem dX11_told_99 : decode cX11_told 99 = .ok (.getfield 167, 3) := dk180 (rd_c chX11_told_6_06 (j := 3) rfl rfl) (rd_c chX11_told_6_06 (j := 4) rfl rfl) (rd_c chX11_told_6_06 (j := 5) rfl rfl) rfl
theorem dX11_told_102 : decode cX11_told 102 = .ok (.invokevirtual 310, 3) := dk182 (rd_c chX11_told_6_06 (j := 6) rfl rfl) (rd_c chX11_told_6_06 (j := 7) rfl rfl) (rd_c chX11_told_6_06 (j := 8) rfl rfl) rfl
theorem dX11_told_105 : decode cX11_told 105 = .ok (.ifCond .eq 7, 3) := dk153 (rd_c chX11_told_6_06 (j := 9) rfl rfl) (rd_c chX11_told_6_06 (j := 10) rfl rfl) (rd_c chX11_told_6_06 (j := 11) rfl rfl) rfl
theorem dX11_told_108 : decode cX11_told 108 = .ok (.iconst 1, 1) := dk4 (rd_c chX11_told_6_06 (j := 12) rfl rfl)
theorem dX11_told_109 : decode cX11_told 109 = .ok (.goto 4, 3) := dk167 (rd_c chX11_told_6_06 (j := 13) rfl rfl) (rd_c chX11_told_6_06 (j := 14) rfl rfl) (rd_c chX11_told_6_06 (j := 15) rfl rfl) rfl
theorem chX11_told_7_06 : ((cX11_told.data.toList.drop 112).take 16).map UInt8.toNat = [3, 172, 42, 180, 0, 167, 42, 180, 0, 36, 29, 46, 100, 172, 42, 180] := by decide +kernel
theorem dX11_told_112 : decode cX11_told 112 = .ok (.iconst 0, 1) := dk3 (rd_c chX11_told_7_06 (j := 0) rfl rfl)
theorem dX11_told_113 : decode cX11_told 113 = .ok (.ireturn, 1) := dk172 (rd_c chX11_told_7_06 (j := 1) rfl rfl)
theorem dX11_told_114 : decode cX11_told 114 = .ok (.aload_n 0, 1) := dk42 (rd_c chX11_told_7_06 (j := 2) rfl rfl)
theorem dX11_told_115 : decode cX11_told 115 = .ok (.getfield 167, 3) := dk180 (rd_c chX11_told_7_06 (j := 3) rfl rfl) (rd_c chX11_told_7_06 (j := 4) rfl rfl) (rd_c chX11_told_7_06 (j := 5) rfl rfl) rfl
theorem dX11_told_118 : decode cX11_told 118 = .ok (.aload_n 0, 1) := dk42 (rd_c chX11_told_7_06 (j := 6) rfl rfl)
theorem dX11_told_119 : decode cX11_told 119 = .ok (.getfield 36, 3) := dk180 (rd_c chX11_told_7_06 (j := 7) rfl rfl) (rd_c chX11_told_7_06 (j := 8) rfl rfl) (rd_c chX11_told_7_06 (j := 9) rfl rfl) rfl
theorem dX11_told_122 : decode cX11_told 122 = .ok (.iload_n 3, 1) := dk29 (rd_c chX11_told_7_06 (j := 10) rfl rfl)
theorem dX11_told_123 : decode cX11_told 123 = .ok (.iaload, 1) := dk46 (rd_c chX11_told_7_06 (j := 11) rfl rfl)
theorem dX11_told_124 : decode cX11_told 124 = .ok (.isub, 1) := dk100 (rd_c chX11_told_7_06 (j := 12) rfl rfl)
theorem dX11_told_125 : decode cX11_told 125 = .ok (.ireturn, 1) := dk172 (rd_c chX11_told_7_06 (j := 13) rfl rfl)
theorem dX11_told_126 : decode cX11_told 126 = .ok (.aload_n 0, 1) := dk42 (rd_c chX11_told_7_06 (j := 14) rfl rfl)
theorem chX11_told_8_06 : ((cX11_told.data.toList.drop 128).take 16).map UInt8.toNat = [0, 167, 42, 180, 0, 36, 29, 46, 100, 42, 180, 0, 39, 29, 46, 164] := by decide +kernel
theorem dX11_told_127 : decode cX11_told 127 = .ok (.getfield 167, 3) := dk180 (rd_c chX11_told_7_06 (j := 15) rfl rfl) (rd_c chX11_told_8_06 (j := 0) rfl rfl) (rd_c chX11_told_8_06 (j := 1) rfl rfl) rfl
theorem dX11_told_130 : decode cX11_told 130 = .ok (.aload_n 0, 1) := dk42 (rd_c chX11_told_8_06 (j := 2) rfl rfl)
theorem dX11_told_131 : decode cX11_told 131 = .ok (.getfield 36, 3) := dk180 (rd_c chX11_told_8_06 (j := 3) rfl rfl) (rd_c chX11_told_8_06 (j := 4) rfl rfl) (rd_c chX11_told_8_06 (j := 5) rfl rfl) rfl
theorem dX11_told_134 : decode cX11_told 134 = .ok (.iload_n 3, 1) := dk29 (rd_c chX11_told_8_06 (j := 6) rfl rfl)
theorem dX11_told_135 : decode cX11_told 135 = .ok (.iaload, 1) := dk46 (rd_c chX11_told_8_06 (j := 7) rfl rfl)
theorem dX11_told_136 : decode cX11_told 136 = .ok (.isub, 1) := dk100 (rd_c chX11_told_8_06 (j := 8) rfl rfl)
theorem dX11_told_137 : decode cX11_told 137 = .ok (.aload_n 0, 1) := dk42 (rd_c chX11_told_8_06 (j := 9) rfl rfl)
theorem dX11_told_138 : decode cX11_told 138 = .ok (.getfield 39, 3) := dk180 (rd_c chX11_told_8_06 (j := 10) rfl rfl) (rd_c chX11_told_8_06 (j := 11) rfl rfl) (rd_c chX11_told_8_06 (j := 12) rfl rfl) rfl
theorem dX11_told_141 : decode cX11_told 141 = .ok (.iload_n 3, 1) := dk29 (rd_c chX11_told_8_06 (j := 13) rfl rfl)
theorem dX11_told_142 : decode cX11_told 142 = .ok (.iaload, 1) := dk46 (rd_c chX11_told_8_06 (j := 14) rfl rfl)
theorem chX11_told_9_06 : ((cX11_told.data.toList.drop 144).take 16).map UInt8.toNat = [0, 7, 4, 167, 0, 4, 3, 172, 21, 5, 172, 42, 180, 0, 27, 29] := by decide +kernel
theorem dX11_told_143 : decode cX11_told 143 = .ok (.if_icmp .le 7, 3) := dk164 (rd_c chX11_told_8_06 (j := 15) rfl rfl) (rd_c chX11_told_9_06 (j := 0) rfl rfl) (rd_c chX11_told_9_06 (j := 1) rfl rfl) rfl
theorem dX11_told_146 : decode cX11_told 146 = .ok (.iconst 1, 1) := dk4 (rd_c chX11_told_9_06 (j := 2) rfl rfl)
theorem dX11_told_147 : decode cX11_told 147 = .ok (.goto 4, 3) := dk167 (rd_c chX11_told_9_06 (j := 3) rfl rfl) (rd_c chX11_told_9_06 (j := 4) rfl rfl) (rd_c chX11_told_9_06 (j := 5) rfl rfl) rfl
theorem dX11_told_150 : decode cX11_told 150 = .ok (.iconst 0, 1) := dk3 (rd_c chX11_told_9_06 (j := 6) rfl rfl)
theorem dX11_told_151 : decode cX11_told 151 = .ok (.ireturn, 1) := dk172 (rd_c chX11_told_9_06 (j := 7) rfl rfl)
theorem dX11_told_152 : decode cX11_told 152 = .ok (.iload 5, 2) := dk21 (rd_c chX11_told_9_06 (j := 8) rfl rfl) (rd_c chX11_told_9_06 (j := 9) rfl rfl)
theorem dX11_told_154 : decode cX11_told 154 = .ok (.ireturn, 1) := dk172 (rd_c chX11_told_9_06 (j := 10) rfl rfl)
theorem dX11_told_155 : decode cX11_told 155 = .ok (.aload_n 0, 1) := dk42 (rd_c chX11_told_9_06 (j := 11) rfl rfl)
theorem dX11_told_156 : decode cX11_told 156 = .ok (.getfield 27, 3) := dk180 (rd_c chX11_told_9_06 (j := 12) rfl rfl) (rd_c chX11_told_9_06 (j := 13) rfl rfl) (rd_c chX11_told_9_06 (j := 14) rfl rfl) rfl
theorem dX11_told_159 : decode cX11_told 159 = .ok (.iload_n 3, 1) := dk29 (rd_c chX11_told_9_06 (j := 15) rfl rfl)
theorem chX11_told_10_06 : ((cX11_told.data.toList.drop 160).take 16).map UInt8.toNat = [46, 154, 0, 19, 42, 180, 0, 30, 29, 46, 42, 180, 0, 42, 29, 46] := by decide +kernel
theorem dX11_told_160 : decode cX11_told 160 = .ok (.iaload, 1) := dk46 (rd_c chX11_told_10_06 (j := 0) rfl rfl)
theorem dX11_told_161 : decode cX11_told 161 = .ok (.ifCond .ne 19, 3) := dk154 (rd_c chX11_told_10_06 (j := 1) rfl rfl) (rd_c chX11_told_10_06 (j := 2) rfl rfl) (rd_c chX11_told_10_06 (j := 3) rfl rfl) rfl
theorem dX11_told_164 : decode cX11_told 164 = .ok (.aload_n 0, 1) := dk42 (rd_c chX11_told_10_06 (j := 4) rfl rfl)
theorem dX11_told_165 : decode cX11_told 165 = .ok (.getfield 30, 3) := dk180 (rd_c chX11_told_10_06 (j := 5) rfl rfl) (rd_c chX11_told_10_06 (j := 6) rfl rfl) (rd_c chX11_told_10_06 (j := 7) rfl rfl) rfl
theorem dX11_told_168 : decode cX11_told 168 = .ok (.iload_n 3, 1) := dk29 (rd_c chX11_told_10_06 (j := 8) rfl rfl)
theorem dX11_told_169 : decode cX11_told 169 = .ok (.iaload, 1) := dk46 (rd_c chX11_told_10_06 (j := 9) rfl rfl)
theorem dX11_told_170 : decode cX11_told 170 = .ok (.aload_n 0, 1) := dk42 (rd_c chX11_told_10_06 (j := 10) rfl rfl)
theorem dX11_told_171 : decode cX11_told 171 = .ok (.getfield 42, 3) := dk180 (rd_c chX11_told_10_06 (j := 11) rfl rfl) (rd_c chX11_told_10_06 (j := 12) rfl rfl) (rd_c chX11_told_10_06 (j := 13) rfl rfl) rfl
theorem dX11_told_174 : decode cX11_told 174 = .ok (.iload_n 3, 1) := dk29 (rd_c chX11_told_10_06 (j := 14) rfl rfl)
theorem dX11_told_175 : decode cX11_told 175 = .ok (.iaload, 1) := dk46 (rd_c chX11_told_10_06 (j := 15) rfl rfl)
theorem chX11_told_11_06 : ((cX11_told.data.toList.drop 176).take 16).map UInt8.toNat = [100, 167, 0, 9, 42, 180, 0, 30, 29, 46, 172, 42, 180, 0, 167, 172] := by decide +kernel
theorem dX11_told_176 : decode cX11_told 176 = .ok (.isub, 1) := dk100 (rd_c chX11_told_11_06 (j := 0) rfl rfl)
theorem dX11_told_177 : decode cX11_told 177 = .ok (.goto 9, 3) := dk167 (rd_c chX11_told_11_06 (j := 1) rfl rfl) (rd_c chX11_told_11_06 (j := 2) rfl rfl) (rd_c chX11_told_11_06 (j := 3) rfl rfl) rfl
theorem dX11_told_180 : decode cX11_told 180 = .ok (.aload_n 0, 1) := dk42 (rd_c chX11_told_11_06 (j := 4) rfl rfl)
theorem dX11_told_181 : decode cX11_told 181 = .ok (.getfield 30, 3) := dk180 (rd_c chX11_told_11_06 (j := 5) rfl rfl) (rd_c chX11_told_11_06 (j := 6) rfl rfl) (rd_c chX11_told_11_06 (j := 7) rfl rfl) rfl
theorem dX11_told_184 : decode cX11_told 184 = .ok (.iload_n 3, 1) := dk29 (rd_c chX11_told_11_06 (j := 8) rfl rfl)
theorem dX11_told_185 : decode cX11_told 185 = .ok (.iaload, 1) := dk46 (rd_c chX11_told_11_06 (j := 9) rfl rfl)
theorem dX11_told_186 : decode cX11_told 186 = .ok (.ireturn, 1) := dk172 (rd_c chX11_told_11_06 (j := 10) rfl rfl)
theorem dX11_told_187 : decode cX11_told 187 = .ok (.aload_n 0, 1) := dk42 (rd_c chX11_told_11_06 (j := 11) rfl rfl)
theorem dX11_told_188 : decode cX11_told 188 = .ok (.getfield 167, 3) := dk180 (rd_c chX11_told_11_06 (j := 12) rfl rfl) (rd_c chX11_told_11_06 (j := 13) rfl rfl) (rd_c chX11_told_11_06 (j := 14) rfl rfl) rfl
theorem dX11_told_191 : decode cX11_told 191 = .ok (.ireturn, 1) := dk172 (rd_c chX11_told_11_06 (j := 15) rfl rfl)
set_option maxRecDepth 20000 in
theorem ggX11_show_X11_isTown : GoodIn wsX11_show wsX11_isTown := goodIn_sub (show ∀ w ∈ wsX11_isTown, w ∈ wsX11_show from (List.forall_mem_cons.mpr ⟨List.mem_cons_of_mem _ (List.mem_append_left _ (List.mem_append_right _ (List.mem_append_left _ (List.mem_of_getElem? (i := 8) rfl)))), (fun _ h => absurd h List.not_mem_nil)⟩)) (by decide +kernel)
set_option maxRecDepth 20000 in
theorem gX11_show_X11_isTown : GoodIn wsX11_show (va_wsS RX11 174 yX11_isTown wsX11_isTown) := goodIn_app (goodIn_sub (List.forall_mem_cons.mpr ⟨List.mem_cons_of_mem _ (List.mem_append_left _ (List.mem_append_right _ (List.mem_append_left _ (List.mem_of_getElem? (i := 5) rfl)))), (List.forall_mem_cons.mpr ⟨List.mem_cons_of_mem _ (List.mem_append_left _ (List.mem_append_right _ (List.mem_append_left _ (List.mem_of_getElem? (i := 6) rfl)))), (List.forall_mem_cons.mpr ⟨List.mem_cons_of_mem _ (List.mem_append_left _ (List.mem_append_right _ (List.mem_append_left _ (List.mem_of_getElem? (i := 7) rfl)))), (fun _ h => absurd h List.not_mem_nil)⟩)⟩)⟩) (by decide +kernel)) ggX11_show_X11_isTown
set_option maxRecDepth 20000 in
theorem ggX11_show_X11_in : GoodIn wsX11_show wsX11_in := goodIn_sub (show ∀ w ∈ wsX11_in, w ∈ wsX11_show from (List.forall_mem_cons.mpr ⟨List.mem_cons_of_mem _ (List.mem_append_left _ (List.mem_append_right _ (List.mem_append_left _ (List.mem_of_getElem? (i := 11) rfl)))), (fun _ h => absurd h List.not_mem_nil)⟩)) (by decide +kernel)
set_option maxRecDepth 20000 in
theorem gX11_show_X11_in : GoodIn wsX11_show (va_wsS RX11 170 yX11_in wsX11_in) := goodIn_app (goodIn_sub (List.forall_mem_cons.mpr ⟨List.mem_cons_of_mem _ (List.mem_append_left _ (List.mem_append_right _ (List.mem_append_left _ (List.mem_of_getElem? (i := 9) rfl)))), (List.forall_mem_cons.mpr ⟨List.mem_cons_of_mem _ (List.mem_append_left _ (List.mem_append_right _ (List.mem_append_left _ (List.mem_of_getElem? (i := 10) rfl)))), (List.forall_mem_cons.mpr ⟨List.mem_cons_of_mem _ (List.mem_append_left _ (List.mem_append_right _ (List.mem_append_left _ (List.mem_of_getElem? (i := 7) rfl)))), (fun _ h => absurd h List.not_mem_nil)⟩)⟩)⟩) (by decide +kernel)) ggX11_show_X11_in
set_option maxRecDepth 20000 in
theorem ggX11_show_X11_told : GoodIn wsX11_show wsX11_told := goodIn_sub (show ∀ w ∈ wsX11_told, w ∈ wsX11_show from (List.forall_mem_cons.mpr ⟨List.mem_cons_of_mem _ (List.mem_append_left _ (List.mem_append_right _ (List.mem_append_left _ (List.mem_of_getElem? (i := 15) rfl)))), (gw_a (gw_a (List.forall_mem_cons.mpr ⟨List.mem_cons_of_mem _ (List.mem_append_left _ (List.mem_append_left _ (List.mem_of_getElem? (i := 20) rfl))), (List.forall_mem_cons.mpr ⟨List.mem_cons_of_mem _ (List.mem_append_left _ (List.mem_append_right _ (List.mem_append_left _ (List.mem_of_getElem? (i := 16) rfl)))), (List.forall_mem_cons.mpr ⟨List.mem_cons_of_mem _ (List.mem_append_left _ (List.mem_append_right _ (List.mem_append_left _ (List.mem_of_getElem? (i := 17) rfl)))), (List.forall_mem_cons.mpr ⟨List.mem_cons_of_mem _ (List.mem_append_left _ (List.mem_append_right _ (List.mem_append_left _ (List.mem_of_getElem? (i := 18) rfl)))), (List.forall_mem_cons.mpr ⟨List.mem_cons_of_mem _ (List.mem_append_left _ (List.mem_append_left _ (List.mem_of_getElem? (i := 3) rfl))), (List.forall_mem_cons.mpr ⟨List.mem_cons_of_mem _ (List.mem_append_left _ (List.mem_append_left _ (List.mem_of_getElem? (i := 5) rfl))), (List.forall_mem_cons.mpr ⟨List.mem_cons_of_mem _ (List.mem_append_left _ (List.mem_append_right _ (List.mem_append_left _ (List.mem_of_getElem? (i := 4) rfl)))), (List.forall_mem_cons.mpr ⟨List.mem_cons_of_mem _ (List.mem_append_left _ (List.mem_append_right _ (List.mem_append_left _ (List.mem_of_getElem? (i := 19) rfl)))), (List.forall_mem_cons.mpr ⟨List.mem_cons_of_mem _ (List.mem_append_left _ (List.mem_append_right _ (List.mem_append_left _ (List.mem_of_getElem? (i := 20) rfl)))), (List.forall_mem_cons.mpr ⟨List.mem_cons_of_mem _ (List.mem_append_left _ (List.mem_append_right _ (List.mem_append_left _ (List.mem_of_getElem? (i := 21) rfl)))), (List.forall_mem_cons.mpr ⟨List.mem_cons_of_mem _ (List.mem_append_left _ (List.mem_append_right _ (List.mem_append_left _ (List.mem_of_getElem? (i := 7) rfl)))), (List.forall_mem_cons.mpr ⟨List.mem_cons_of_mem _ (List.mem_append_left _ (List.mem_append_right _ (List.mem_append_left _ (List.mem_of_getElem? (i := 22) rfl)))), (List.forall_mem_cons.mpr ⟨List.mem_cons_of_mem _ (List.mem_append_left _ (List.mem_append_right _ (List.mem_append_left _ (List.mem_of_getElem? (i := 23) rfl)))), (List.forall_mem_cons.mpr ⟨List.mem_cons_of_mem _ (List.mem_append_left _ (List.mem_append_right _ (List.mem_append_right _ (List.mem_of_getElem? (i := 0) rfl)))), (List.forall_mem_cons.mpr ⟨List.mem_cons_of_mem _ (List.mem_append_left _ (List.mem_append_right _ (List.mem_append_right _ (List.mem_of_getElem? (i := 1) rfl)))), (List.forall_mem_cons.mpr ⟨List.mem_cons_of_mem _ (List.mem_append_left _ (List.mem_append_right _ (List.mem_append_right _ (List.mem_of_getElem? (i := 2) rfl)))), (List.forall_mem_cons.mpr ⟨List.mem_cons_of_mem _ (List.mem_append_left _ (List.mem_append_right _ (List.mem_append_right _ (List.mem_of_getElem? (i := 3) rfl)))), (List.forall_mem_cons.mpr ⟨List.mem_cons_of_mem _ (List.mem_append_left _ (List.mem_append_right _ (List.mem_append_right _ (List.mem_of_getElem? (i := 4) rfl)))), (List.forall_mem_cons.mpr ⟨List.mem_cons_of_mem _ (List.mem_append_left _ (List.mem_append_right _ (List.mem_append_right _ (List.mem_of_getElem? (i := 5) rfl)))), (List.forall_mem_cons.mpr ⟨List.mem_cons_of_mem _ (List.mem_append_left _ (List.mem_append_right _ (List.mem_append_right _ (List.mem_of_getElem? (i := 6) rfl)))), (List.forall_mem_cons.mpr ⟨List.mem_cons_of_mem _ (List.mem_append_left _ (List.mem_append_right _ (List.mem_append_right _ (List.mem_of_getElem? (i := 7) rfl)))), (List.forall_mem_cons.mpr ⟨List.mem_cons_of_mem _ (List.mem_append_left _ (List.mem_append_right _ (List.mem_append_right _ (List.mem_of_getElem? (i := 8) rfl)))), (List.forall_mem_cons.mpr ⟨List.mem_cons_of_mem _ (List.mem_append_left _ (List.mem_append_right _ (List.mem_append_right _ (List.mem_of_getElem? (i := 9) rfl)))), (List.forall_mem_cons.mpr ⟨List.mem_cons_of_mem _ (List.mem_append_left _ (List.mem_append_right _ (List.mem_append_right _ (List.mem_of_getElem? (i := 10) rfl)))), (fun _ h => absurd h List.not_mem_nil)⟩)⟩)⟩)⟩)⟩)⟩)⟩)⟩)⟩)⟩)⟩)⟩)⟩)⟩)⟩)⟩)⟩)⟩)⟩)⟩)⟩)⟩)⟩)⟩) (List.forall_mem_cons.mpr ⟨List.mem_cons_of_mem _ (List.mem_append_left _ (List.mem_append_right _ (List.mem_append_right _ (List.mem_of_getElem? (i := 11) rfl)))), (List.forall_mem_cons.mpr ⟨List.mem_cons_of_mem _ (List.mem_append_left _ (List.mem_append_right _ (List.mem_append_right _ (List.mem_of_getElem? (i := 12) rfl)))), (List.forall_mem_cons.mpr ⟨List.mem_cons_of_mem _ (List.mem_append_left _ (List.mem_append_right _ (List.mem_append_right _ (List.mem_of_getElem? (i := 13) rfl)))), (List.forall_mem_cons.mpr ⟨List.mem_cons_of_mem _ (List.mem_append_left _ (List.mem_append_right _ (List.mem_append_right _ (List.mem_of_getElem? (i := 14) rfl)))), (fun _ h => absurd h List.not_mem_nil)⟩)⟩)⟩)⟩)) (fun _ h => List.mem_cons_of_mem _ (List.mem_append_right _ (h))))⟩)) (by decide +kernel)
set_option maxRecDepth 20000 in
theorem gX11_show_X11_told : GoodIn wsX11_show (wsV RX11 317 RX11 yX11_told wsX11_told) := goodIn_app (goodIn_sub (List.forall_mem_cons.mpr ⟨List.mem_cons_of_mem _ (List.mem_append_left _ (List.mem_append_right _ (List.mem_append_left _ (List.mem_of_getElem? (i := 12) rfl)))), (List.forall_mem_cons.mpr ⟨List.mem_cons_of_mem _ (List.mem_append_left _ (List.mem_append_right _ (List.mem_append_left _ (List.mem_of_getElem? (i := 13) rfl)))), (List.forall_mem_cons.mpr ⟨List.mem_cons_of_mem _ (List.mem_append_left _ (List.mem_append_right _ (List.mem_append_left _ (List.mem_of_getElem? (i := 14) rfl)))), (List.forall_mem_cons.mpr ⟨List.mem_cons_of_mem _ (List.mem_append_left _ (List.mem_append_right _ (List.mem_append_left _ (List.mem_of_getElem? (i := 7) rfl)))), (fun _ h => absurd h List.not_mem_nil)⟩)⟩)⟩)⟩) (by decide +kernel)) ggX11_show_X11_told
set_option maxRecDepth 20000 in
theorem ggX11_show_X11_sends : GoodIn wsX11_show wsX11_sends := goodIn_sub (show ∀ w ∈ wsX11_sends, w ∈ wsX11_show from (List.forall_mem_cons.mpr ⟨List.mem_cons_of_mem _ (List.mem_append_left _ (List.mem_append_right _ (List.mem_append_right _ (List.mem_of_getElem? (i := 18) rfl)))), (gw_a (List.forall_mem_cons.mpr ⟨List.mem_cons_of_mem _ (List.mem_append_left _ (List.mem_append_right _ (List.mem_append_left _ (List.mem_of_getElem? (i := 2) rfl)))), (List.forall_mem_cons.mpr ⟨List.mem_cons_of_mem _ (List.mem_append_left _ (List.mem_append_left _ (List.mem_of_getElem? (i := 23) rfl))), (List.forall_mem_cons.mpr ⟨List.mem_cons_of_mem _ (List.mem_append_left _ (List.mem_append_right _ (List.mem_append_right _ (List.mem_of_getElem? (i := 19) rfl)))), (List.forall_mem_cons.mpr ⟨List.mem_cons_of_mem _ (List.mem_append_left _ (List.mem_append_right _ (List.mem_append_right _ (List.mem_of_getElem? (i := 20) rfl)))), (fun _ h => absurd h List.not_mem_nil)⟩)⟩)⟩)⟩) (fun _ h => List.mem_cons_of_mem _ (List.mem_append_right _ (h))))⟩)) (by decide +kernel)
set_option maxRecDepth 20000 in
theorem gX11_show_X11_sends : GoodIn wsX11_show (wsV RX11 190 RX11 yX11_sends wsX11_sends) := goodIn_app (goodIn_sub (List.forall_mem_cons.mpr ⟨List.mem_cons_of_mem _ (List.mem_append_left _ (List.mem_append_right _ (List.mem_append_right _ (List.mem_of_getElem? (i := 15) rfl)))), (List.forall_mem_cons.mpr ⟨List.mem_cons_of_mem _ (List.mem_append_left _ (List.mem_append_right _ (List.mem_append_right _ (List.mem_of_getElem? (i := 16) rfl)))), (List.forall_mem_cons.mpr ⟨List.mem_cons_of_mem _ (List.mem_append_left _ (List.mem_append_right _ (List.mem_append_right _ (List.mem_of_getElem? (i := 17) rfl)))), (List.forall_mem_cons.mpr ⟨List.mem_cons_of_mem _ (List.mem_append_left _ (List.mem_append_right _ (List.mem_append_left _ (List.mem_of_getElem? (i := 7) rfl)))), (fun _ h => absurd h List.not_mem_nil)⟩)⟩)⟩)⟩) (by decide +kernel)) ggX11_show_X11_sends
theorem chX11_show_0_06 : ((cX11_show.data.toList.drop 0).take 16).map UInt8.toNat = [42, 180, 1, 58, 17, 0, 200, 159, 0, 35, 27, 184, 0, 174, 153, 0] := by decide +kernel
theorem dX11_show_0 : decode cX11_show 0 = .ok (.aload_n 0, 1) := dk42 (rd_c chX11_show_0_06 (j := 0) rfl rfl)
theorem dX11_show_1 : decode cX11_show 1 = .ok (.getfield 314, 3) := dk180 (rd_c chX11_show_0_06 (j := 1) rfl rfl) (rd_c chX11_show_0_06 (j := 2) rfl rfl) (rd_c chX11_show_0_06 (j := 3) rfl rfl) rfl
theorem dX11_show_4 : decode cX11_show 4 = .ok (.sipush 200, 3) := dk17 (rd_c chX11_show_0_06 (j := 4) rfl rfl) (rd_c chX11_show_0_06 (j := 5) rfl rfl) (rd_c chX11_show_0_06 (j := 6) rfl rfl) rfl
theorem dX11_show_7 : decode cX11_show 7 = .ok (.if_icmp .eq 35, 3) := dk159 (rd_c chX11_show_0_06 (j := 7) rfl rfl) (rd_c chX11_show_0_06 (j := 8) rfl rfl) (rd_c chX11_show_0_06 (j := 9) rfl rfl) rfl
theorem dX11_show_10 : decode cX11_show 10 = .ok (.iload_n 1, 1) := dk27 (rd_c chX11_show_0_06 (j := 10) rfl rfl)
theorem dX11_show_11 : decode cX11_show 11 = .ok (.invokestatic 174, 3) := dk184 (rd_c chX11_show_0_06 (j := 11) rfl rfl) (rd_c chX11_show_0_06 (j := 12) rfl rfl) (rd_c chX11_show_0_06 (j := 13) rfl rfl) rfl
theorem chX11_show_1_06 : ((cX11_show.data.toList.drop 16).take 16).map UInt8.toNat = [28, 28, 3, 42, 180, 0, 179, 4, 100, 184, 0, 170, 153, 0, 14, 21] := by decide +kernel
theorem dX11_show_14 : decode cX11_show 14 = .ok (.ifCond .eq 28, 3) := dk153 (rd_c chX11_show_0_06 (j := 14) rfl rfl) (rd_c chX11_show_0_06 (j := 15) rfl rfl) (rd_c chX11_show_1_06 (j := 0) rfl rfl) rfl
theorem dX11_show_17 : decode cX11_show 17 = .ok (.iload_n 2, 1) := dk28 (rd_c chX11_show_1_06 (j := 1) rfl rfl)
theorem dX11_show_18 : decode cX11_show 18 = .ok (.iconst 0, 1) := dk3 (rd_c chX11_show_1_06 (j := 2) rfl rfl)
theorem dX11_show_19 : decode cX11_show 19 = .ok (.aload_n 0, 1) := dk42 (rd_c chX11_show_1_06 (j := 3) rfl rfl)
theorem dX11_show_20 : decode cX11_show 20 = .ok (.getfield 179, 3) := dk180 (rd_c chX11_show_1_06 (j := 4) rfl rfl) (rd_c chX11_show_1_06 (j := 5) rfl rfl) (rd_c chX11_show_1_06 (j := 6) rfl rfl) rfl
theorem dX11_show_23 : decode cX11_show 23 = .ok (.iconst 1, 1) := dk4 (rd_c chX11_show_1_06 (j := 7) rfl rfl)
theorem dX11_show_24 : decode cX11_show 24 = .ok (.isub, 1) := dk100 (rd_c chX11_show_1_06 (j := 8) rfl rfl)
theorem dX11_show_25 : decode cX11_show 25 = .ok (.invokestatic 170, 3) := dk184 (rd_c chX11_show_1_06 (j := 9) rfl rfl) (rd_c chX11_show_1_06 (j := 10) rfl rfl) (rd_c chX11_show_1_06 (j := 11) rfl rfl) rfl
theorem dX11_show_28 : decode cX11_show 28 = .ok (.ifCond .eq 14, 3) := dk153 (rd_c chX11_show_1_06 (j := 12) rfl rfl) (rd_c chX11_show_1_06 (j := 13) rfl rfl) (rd_c chX11_show_1_06 (j := 14) rfl rfl) rfl
theorem chX11_show_2_06 : ((cX11_show.data.toList.drop 32).take 16).map UInt8.toNat = [5, 3, 18, 182, 184, 0, 170, 154, 0, 5, 2, 172, 42, 180, 0, 27] := by decide +kernel
theorem dX11_show_31 : decode cX11_show 31 = .ok (.iload 5, 2) := dk21 (rd_c chX11_show_1_06 (j := 15) rfl rfl) (rd_c chX11_show_2_06 (j := 0) rfl rfl)
theorem dX11_show_33 : decode cX11_show 33 = .ok (.iconst 0, 1) := dk3 (rd_c chX11_show_2_06 (j := 1) rfl rfl)
theorem dX11_show_34 : decode cX11_show 34 = .ok (.ldc 182, 2) := dk18 (rd_c chX11_show_2_06 (j := 2) rfl rfl) (rd_c chX11_show_2_06 (j := 3) rfl rfl)
theorem dX11_show_36 : decode cX11_show 36 = .ok (.invokestatic 170, 3) := dk184 (rd_c chX11_show_2_06 (j := 4) rfl rfl) (rd_c chX11_show_2_06 (j := 5) rfl rfl) (rd_c chX11_show_2_06 (j := 6) rfl rfl) rfl
theorem dX11_show_39 : decode cX11_show 39 = .ok (.ifCond .ne 5, 3) := dk154 (rd_c chX11_show_2_06 (j := 7) rfl rfl) (rd_c chX11_show_2_06 (j := 8) rfl rfl) (rd_c chX11_show_2_06 (j := 9) rfl rfl) rfl
theorem dX11_show_42 : decode cX11_show 42 = .ok (.iconst (-1), 1) := dk2 (rd_c chX11_show_2_06 (j := 10) rfl rfl)
theorem dX11_show_43 : decode cX11_show 43 = .ok (.ireturn, 1) := dk172 (rd_c chX11_show_2_06 (j := 11) rfl rfl)
theorem dX11_show_44 : decode cX11_show 44 = .ok (.aload_n 0, 1) := dk42 (rd_c chX11_show_2_06 (j := 12) rfl rfl)
theorem dX11_show_45 : decode cX11_show 45 = .ok (.getfield 27, 3) := dk180 (rd_c chX11_show_2_06 (j := 13) rfl rfl) (rd_c chX11_show_2_06 (j := 14) rfl rfl) (rd_c chX11_show_2_06 (j := 15) rfl rfl) rfl
theorem chX11_show_3_06 : ((cX11_show.data.toList.drop 48).take 16).map UInt8.toNat = [28, 46, 158, 0, 7, 4, 167, 0, 4, 3, 54, 7, 21, 7, 153, 0] := by decide +kernel
theorem dX11_show_48 : decode cX11_show 48 = .ok (.iload_n 2, 1) := dk28 (rd_c chX11_show_3_06 (j := 0) rfl rfl)
theorem dX11_show_49 : decode cX11_show 49 = .ok (.iaload, 1) := dk46 (rd_c chX11_show_3_06 (j := 1) rfl rfl)
theorem dX11_show_50 : decode cX11_show 50 = .ok (.ifCond .le 7, 3) := dk158 (rd_c chX11_show_3_06 (j := 2) rfl rfl) (rd_c chX11_show_3_06 (j := 3) rfl rfl) (rd_c chX11_show_3_06 (j := 4) rfl rfl) rfl
theorem dX11_show_53 : decode cX11_show 53 = .ok (.iconst 1, 1) := dk4 (rd_c chX11_show_3_06 (j := 5) rfl rfl)
theorem dX11_show_54 : decode cX11_show 54 = .ok (.goto 4, 3) := dk167 (rd_c chX11_show_3_06 (j := 6) rfl rfl) (rd_c chX11_show_3_06 (j := 7) rfl rfl) (rd_c chX11_show_3_06 (j := 8) rfl rfl) rfl
theorem dX11_show_57 : decode cX11_show 57 = .ok (.iconst 0, 1) := dk3 (rd_c chX11_show_3_06 (j := 9) rfl rfl)
theorem dX11_show_58 : decode cX11_show 58 = .ok (.istore 7, 2) := dk54 (rd_c chX11_show_3_06 (j := 10) rfl rfl) (rd_c chX11_show_3_06 (j := 11) rfl rfl)
theorem dX11_show_60 : decode cX11_show 60 = .ok (.iload 7, 2) := dk21 (rd_c chX11_show_3_06 (j := 12) rfl rfl) (rd_c chX11_show_3_06 (j := 13) rfl rfl)
theorem chX11_show_4_06 : ((cX11_show.data.toList.drop 64).take 16).map UInt8.toNat = [22, 29, 3, 42, 180, 0, 27, 28, 46, 4, 100, 184, 0, 170, 154, 0] := by decide +kernel
theorem dX11_show_62 : decode cX11_show 62 = .ok (.ifCond .eq 22, 3) := dk153 (rd_c chX11_show_3_06 (j := 14) rfl rfl) (rd_c chX11_show_3_06 (j := 15) rfl rfl) (rd_c chX11_show_4_06 (j := 0) rfl rfl) rfl
theorem dX11_show_65 : decode cX11_show 65 = .ok (.iload_n 3, 1) := dk29 (rd_c chX11_show_4_06 (j := 1) rfl rfl)
theorem dX11_show_66 : decode cX11_show 66 = .ok (.iconst 0, 1) := dk3 (rd_c chX11_show_4_06 (j := 2) rfl rfl)
theorem dX11_show_67 : decode cX11_show 67 = .ok (.aload_n 0, 1) := dk42 (rd_c chX11_show_4_06 (j := 3) rfl rfl)
theorem dX11_show_68 : decode cX11_show 68 = .ok (.getfield 27, 3) := dk180 (rd_c chX11_show_4_06 (j := 4) rfl rfl) (rd_c chX11_show_4_06 (j := 5) rfl rfl) (rd_c chX11_show_4_06 (j := 6) rfl rfl) rfl
theorem dX11_show_71 : decode cX11_show 71 = .ok (.iload_n 2, 1) := dk28 (rd_c chX11_show_4_06 (j := 7) rfl rfl)
theorem dX11_show_72 : decode cX11_show 72 = .ok (.iaload, 1) := dk46 (rd_c chX11_show_4_06 (j := 8) rfl rfl)
theorem dX11_show_73 : decode cX11_show 73 = .ok (.iconst 1, 1) := dk4 (rd_c chX11_show_4_06 (j := 9) rfl rfl)
theorem dX11_show_74 : decode cX11_show 74 = .ok (.isub, 1) := dk100 (rd_c chX11_show_4_06 (j := 10) rfl rfl)
theorem dX11_show_75 : decode cX11_show 75 = .ok (.invokestatic 170, 3) := dk184 (rd_c chX11_show_4_06 (j := 11) rfl rfl) (rd_c chX11_show_4_06 (j := 12) rfl rfl) (rd_c chX11_show_4_06 (j := 13) rfl rfl) rfl
theorem chX11_show_5_06 : ((cX11_show.data.toList.drop 80).take 16).map UInt8.toNat = [24, 167, 0, 19, 29, 2, 160, 0, 14, 21, 4, 4, 18, 178, 184, 0] := by decide +kernel
theorem dX11_show_78 : decode cX11_show 78 = .ok (.ifCond .ne 24, 3) := dk154 (rd_c chX11_show_4_06 (j := 14) rfl rfl) (rd_c chX11_show_4_06 (j := 15) rfl rfl) (rd_c chX11_show_5_06 (j := 0) rfl rfl) rfl
theorem dX11_show_81 : decode cX11_show 81 = .ok (.goto 19, 3) := dk167 (rd_c chX11_show_5_06 (j := 1) rfl rfl) (rd_c chX11_show_5_06 (j := 2) rfl rfl) (rd_c chX11_show_5_06 (j := 3) rfl rfl) rfl
theorem dX11_show_84 : decode cX11_show 84 = .ok (.iload_n 3, 1) := dk29 (rd_c chX11_show_5_06 (j := 4) rfl rfl)
theorem dX11_show_85 : decode cX11_show 85 = .ok (.iconst (-1), 1) := dk2 (rd_c chX11_show_5_06 (j := 5) rfl rfl)
theorem dX11_show_86 : decode cX11_show 86 = .ok (.if_icmp .ne 14, 3) := dk160 (rd_c chX11_show_5_06 (j := 6) rfl rfl) (rd_c chX11_show_5_06 (j := 7) rfl rfl) (rd_c chX11_show_5_06 (j := 8) rfl rfl) rfl
theorem dX11_show_89 : decode cX11_show 89 = .ok (.iload 4, 2) := dk21 (rd_c chX11_show_5_06 (j := 9) rfl rfl) (rd_c chX11_show_5_06 (j := 10) rfl rfl)
theorem dX11_show_91 : decode cX11_show 91 = .ok (.iconst 1, 1) := dk4 (rd_c chX11_show_5_06 (j := 11) rfl rfl)
theorem dX11_show_92 : decode cX11_show 92 = .ok (.ldc 178, 2) := dk18 (rd_c chX11_show_5_06 (j := 12) rfl rfl) (rd_c chX11_show_5_06 (j := 13) rfl rfl)
theorem chX11_show_6_06 : ((cX11_show.data.toList.drop 96).take 16).map UInt8.toNat = [170, 154, 0, 5, 2, 172, 21, 7, 153, 0, 12, 42, 180, 0, 30, 28] := by decide +kernel
theorem dX11_show_94 : decode cX11_show 94 = .ok (.invokestatic 170, 3) := dk184 (rd_c chX11_show_5_06 (j := 14) rfl rfl) (rd_c chX11_show_5_06 (j := 15) rfl rfl) (rd_c chX11_show_6_06 (j := 0) rfl rfl) rfl
theorem dX11_show_97 : decode cX11_show 97 = .ok (.ifCond .ne 5, 3) := dk154 (rd_c chX11_show_6_06 (j := 1) rfl rfl) (rd_c chX11_show_6_06 (j := 2) rfl rfl) (rd_c chX11_show_6_06 (j := 3) rfl rfl) rfl
theorem dX11_show_100 : decode cX11_show 100 = .ok (.iconst (-1), 1) := dk2 (rd_c chX11_show_6_06 (j := 4) rfl rfl)
theorem dX11_show_101 : decode cX11_show 101 = .ok (.ireturn, 1) := dk172 (rd_c chX11_show_6_06 (j := 5) rfl rfl)
theorem dX11_show_102 : decode cX11_show 102 = .ok (.iload 7, 2) := dk21 (rd_c chX11_show_6_06 (j := 6) rfl rfl) (rd_c chX11_show_6_06 (j := 7) rfl rfl)
theorem dX11_show_104 : decode cX11_show 104 = .ok (.ifCond .eq 12, 3) := dk153 (rd_c chX11_show_6_06 (j := 8) rfl rfl) (rd_c chX11_show_6_06 (j := 9) rfl rfl) (rd_c chX11_show_6_06 (j := 10) rfl rfl) rfl
theorem dX11_show_107 : decode cX11_show 107 = .ok (.aload_n 0, 1) := dk42 (rd_c chX11_show_6_06 (j := 11) rfl rfl)
theorem dX11_show_108 : decode cX11_show 108 = .ok (.getfield 30, 3) := dk180 (rd_c chX11_show_6_06 (j := 12) rfl rfl) (rd_c chX11_show_6_06 (j := 13) rfl rfl) (rd_c chX11_show_6_06 (j := 14) rfl rfl) rfl
theorem dX11_show_111 : decode cX11_show 111 = .ok (.iload_n 2, 1) := dk28 (rd_c chX11_show_6_06 (j := 15) rfl rfl)
theorem chX11_show_7_06 : ((cX11_show.data.toList.drop 112).take 16).map UInt8.toNat = [46, 167, 0, 5, 21, 4, 54, 8, 2, 54, 9, 3, 54, 10, 21, 10] := by decide +kernel
theorem dX11_show_112 : decode cX11_show 112 = .ok (.iaload, 1) := dk46 (rd_c chX11_show_7_06 (j := 0) rfl rfl)
theorem dX11_show_113 : decode cX11_show 113 = .ok (.goto 5, 3) := dk167 (rd_c chX11_show_7_06 (j := 1) rfl rfl) (rd_c chX11_show_7_06 (j := 2) rfl rfl) (rd_c chX11_show_7_06 (j := 3) rfl rfl) rfl
theorem dX11_show_116 : decode cX11_show 116 = .ok (.iload 4, 2) := dk21 (rd_c chX11_show_7_06 (j := 4) rfl rfl) (rd_c chX11_show_7_06 (j := 5) rfl rfl)
theorem dX11_show_118 : decode cX11_show 118 = .ok (.istore 8, 2) := dk54 (rd_c chX11_show_7_06 (j := 6) rfl rfl) (rd_c chX11_show_7_06 (j := 7) rfl rfl)
theorem dX11_show_120 : decode cX11_show 120 = .ok (.iconst (-1), 1) := dk2 (rd_c chX11_show_7_06 (j := 8) rfl rfl)
theorem dX11_show_121 : decode cX11_show 121 = .ok (.istore 9, 2) := dk54 (rd_c chX11_show_7_06 (j := 9) rfl rfl) (rd_c chX11_show_7_06 (j := 10) rfl rfl)
theorem dX11_show_123 : decode cX11_show 123 = .ok (.iconst 0, 1) := dk3 (rd_c chX11_show_7_06 (j := 11) rfl rfl)
theorem dX11_show_124 : decode cX11_show 124 = .ok (.istore 10, 2) := dk54 (rd_c chX11_show_7_06 (j := 12) rfl rfl) (rd_c chX11_show_7_06 (j := 13) rfl rfl)
theorem dX11_show_126 : decode cX11_show 126 = .ok (.iload 10, 2) := dk21 (rd_c chX11_show_7_06 (j := 14) rfl rfl) (rd_c chX11_show_7_06 (j := 15) rfl rfl)
theorem chX11_show_8_06 : ((cX11_show.data.toList.drop 128).take 16).map UInt8.toNat = [42, 180, 0, 74, 27, 46, 162, 0, 171, 21, 9, 2, 160, 0, 165, 4] := by decide +kernel
theorem dX11_show_128 : decode cX11_show 128 = .ok (.aload_n 0, 1) := dk42 (rd_c chX11_show_8_06 (j := 0) rfl rfl)
theorem dX11_show_129 : decode cX11_show 129 = .ok (.getfield 74, 3) := dk180 (rd_c chX11_show_8_06 (j := 1) rfl rfl) (rd_c chX11_show_8_06 (j := 2) rfl rfl) (rd_c chX11_show_8_06 (j := 3) rfl rfl) rfl
theorem dX11_show_132 : decode cX11_show 132 = .ok (.iload_n 1, 1) := dk27 (rd_c chX11_show_8_06 (j := 4) rfl rfl)
theorem dX11_show_133 : decode cX11_show 133 = .ok (.iaload, 1) := dk46 (rd_c chX11_show_8_06 (j := 5) rfl rfl)
theorem dX11_show_134 : decode cX11_show 134 = .ok (.if_icmp .ge 171, 3) := dk162 (rd_c chX11_show_8_06 (j := 6) rfl rfl) (rd_c chX11_show_8_06 (j := 7) rfl rfl) (rd_c chX11_show_8_06 (j := 8) rfl rfl) rfl
theorem dX11_show_137 : decode cX11_show 137 = .ok (.iload 9, 2) := dk21 (rd_c chX11_show_8_06 (j := 9) rfl rfl) (rd_c chX11_show_8_06 (j := 10) rfl rfl)
theorem dX11_show_139 : decode cX11_show 139 = .ok (.iconst (-1), 1) := dk2 (rd_c chX11_show_8_06 (j := 11) rfl rfl)
theorem dX11_show_140 : decode cX11_show 140 = .ok (.if_icmp .ne 165, 3) := dk160 (rd_c chX11_show_8_06 (j := 12) rfl rfl) (rd_c chX11_show_8_06 (j := 13) rfl rfl) (rd_c chX11_show_8_06 (j := 14) rfl rfl) rfl
theorem dX11_show_143 : decode cX11_show 143 = .ok (.iconst 1, 1) := dk4 (rd_c chX11_show_8_06 (j := 15) rfl rfl)
theorem chX11_show_9_06 : ((cX11_show.data.toList.drop 144).take 16).map UInt8.toNat = [54, 11, 3, 54, 12, 21, 12, 42, 180, 0, 80, 16, 12, 27, 104, 21] := by decide +kernel
theorem dX11_show_144 : decode cX11_show 144 = .ok (.istore 11, 2) := dk54 (rd_c chX11_show_9_06 (j := 0) rfl rfl) (rd_c chX11_show_9_06 (j := 1) rfl rfl)
theorem dX11_show_146 : decode cX11_show 146 = .ok (.iconst 0, 1) := dk3 (rd_c chX11_show_9_06 (j := 2) rfl rfl)
theorem dX11_show_147 : decode cX11_show 147 = .ok (.istore 12, 2) := dk54 (rd_c chX11_show_9_06 (j := 3) rfl rfl) (rd_c chX11_show_9_06 (j := 4) rfl rfl)
theorem dX11_show_149 : decode cX11_show 149 = .ok (.iload 12, 2) := dk21 (rd_c chX11_show_9_06 (j := 5) rfl rfl) (rd_c chX11_show_9_06 (j := 6) rfl rfl)
theorem dX11_show_151 : decode cX11_show 151 = .ok (.aload_n 0, 1) := dk42 (rd_c chX11_show_9_06 (j := 7) rfl rfl)
theorem dX11_show_152 : decode cX11_show 152 = .ok (.getfield 80, 3) := dk180 (rd_c chX11_show_9_06 (j := 8) rfl rfl) (rd_c chX11_show_9_06 (j := 9) rfl rfl) (rd_c chX11_show_9_06 (j := 10) rfl rfl) rfl
theorem dX11_show_155 : decode cX11_show 155 = .ok (.bipush 12, 2) := dk16 (rd_c chX11_show_9_06 (j := 11) rfl rfl) (rd_c chX11_show_9_06 (j := 12) rfl rfl) rfl
theorem dX11_show_157 : decode cX11_show 157 = .ok (.iload_n 1, 1) := dk27 (rd_c chX11_show_9_06 (j := 13) rfl rfl)
theorem dX11_show_158 : decode cX11_show 158 = .ok (.imul, 1) := dk104 (rd_c chX11_show_9_06 (j := 14) rfl rfl)
theorem chX11_show_10_06 : ((cX11_show.data.toList.drop 160).take 16).map UInt8.toNat = [10, 96, 46, 162, 0, 122, 16, 6, 16, 12, 27, 104, 21, 10, 96, 104] := by decide +kernel
theorem dX11_show_159 : decode cX11_show 159 = .ok (.iload 10, 2) := dk21 (rd_c chX11_show_9_06 (j := 15) rfl rfl) (rd_c chX11_show_10_06 (j := 0) rfl rfl)
theorem dX11_show_161 : decode cX11_show 161 = .ok (.iadd, 1) := dk96 (rd_c chX11_show_10_06 (j := 1) rfl rfl)
theorem dX11_show_162 : decode cX11_show 162 = .ok (.iaload, 1) := dk46 (rd_c chX11_show_10_06 (j := 2) rfl rfl)
theorem dX11_show_163 : decode cX11_show 163 = .ok (.if_icmp .ge 122, 3) := dk162 (rd_c chX11_show_10_06 (j := 3) rfl rfl) (rd_c chX11_show_10_06 (j := 4) rfl rfl) (rd_c chX11_show_10_06 (j := 5) rfl rfl) rfl
theorem dX11_show_166 : decode cX11_show 166 = .ok (.bipush 6, 2) := dk16 (rd_c chX11_show_10_06 (j := 6) rfl rfl) (rd_c chX11_show_10_06 (j := 7) rfl rfl) rfl
theorem dX11_show_168 : decode cX11_show 168 = .ok (.bipush 12, 2) := dk16 (rd_c chX11_show_10_06 (j := 8) rfl rfl) (rd_c chX11_show_10_06 (j := 9) rfl rfl) rfl
theorem dX11_show_170 : decode cX11_show 170 = .ok (.iload_n 1, 1) := dk27 (rd_c chX11_show_10_06 (j := 10) rfl rfl)
theorem dX11_show_171 : decode cX11_show 171 = .ok (.imul, 1) := dk104 (rd_c chX11_show_10_06 (j := 11) rfl rfl)
theorem dX11_show_172 : decode cX11_show 172 = .ok (.iload 10, 2) := dk21 (rd_c chX11_show_10_06 (j := 12) rfl rfl) (rd_c chX11_show_10_06 (j := 13) rfl rfl)
theorem dX11_show_174 : decode cX11_show 174 = .ok (.iadd, 1) := dk96 (rd_c chX11_show_10_06 (j := 14) rfl rfl)
theorem dX11_show_175 : decode cX11_show 175 = .ok (.imul, 1) := dk104 (rd_c chX11_show_10_06 (j := 15) rfl rfl)
theorem chX11_show_11_06 : ((cX11_show.data.toList.drop 176).take 16).map UInt8.toNat = [21, 12, 96, 54, 13, 42, 42, 180, 0, 83, 21, 13, 46, 27, 28, 29] := by decide +kernel
theorem dX11_show_176 : decode cX11_show 176 = .ok (.iload 12, 2) := dk21 (rd_c chX11_show_11_06 (j := 0) rfl rfl) (rd_c chX11_show_11_06 (j := 1) rfl rfl)
theorem dX11_show_178 : decode cX11_show 178 = .ok (.iadd, 1) := dk96 (rd_c chX11_show_11_06 (j := 2) rfl rfl)
theorem dX11_show_179 : decode cX11_show 179 = .ok (.istore 13, 2) := dk54 (rd_c chX11_show_11_06 (j := 3) rfl rfl) (rd_c chX11_show_11_06 (j := 4) rfl rfl)
theorem dX11_show_181 : decode cX11_show 181 = .ok (.aload_n 0, 1) := dk42 (rd_c chX11_show_11_06 (j := 5) rfl rfl)
theorem dX11_show_182 : decode cX11_show 182 = .ok (.aload_n 0, 1) := dk42 (rd_c chX11_show_11_06 (j := 6) rfl rfl)
theorem dX11_show_183 : decode cX11_show 183 = .ok (.getfield 83, 3) := dk180 (rd_c chX11_show_11_06 (j := 7) rfl rfl) (rd_c chX11_show_11_06 (j := 8) rfl rfl) (rd_c chX11_show_11_06 (j := 9) rfl rfl) rfl
theorem dX11_show_186 : decode cX11_show 186 = .ok (.iload 13, 2) := dk21 (rd_c chX11_show_11_06 (j := 10) rfl rfl) (rd_c chX11_show_11_06 (j := 11) rfl rfl)
theorem dX11_show_188 : decode cX11_show 188 = .ok (.iaload, 1) := dk46 (rd_c chX11_show_11_06 (j := 12) rfl rfl)
theorem dX11_show_189 : decode cX11_show 189 = .ok (.iload_n 1, 1) := dk27 (rd_c chX11_show_11_06 (j := 13) rfl rfl)
theorem dX11_show_190 : decode cX11_show 190 = .ok (.iload_n 2, 1) := dk28 (rd_c chX11_show_11_06 (j := 14) rfl rfl)
theorem dX11_show_191 : decode cX11_show 191 = .ok (.iload_n 3, 1) := dk29 (rd_c chX11_show_11_06 (j := 15) rfl rfl)
theorem chX11_show_12_06 : ((cX11_show.data.toList.drop 192).take 16).map UInt8.toNat = [21, 8, 21, 5, 182, 1, 61, 54, 14, 21, 11, 153, 0, 73, 42, 180] := by decide +kernel
theorem dX11_show_192 : decode cX11_show 192 = .ok (.iload 8, 2) := dk21 (rd_c chX11_show_12_06 (j := 0) rfl rfl) (rd_c chX11_show_12_06 (j := 1) rfl rfl)
theorem dX11_show_194 : decode cX11_show 194 = .ok (.iload 5, 2) := dk21 (rd_c chX11_show_12_06 (j := 2) rfl rfl) (rd_c chX11_show_12_06 (j := 3) rfl rfl)
theorem dX11_show_196 : decode cX11_show 196 = .ok (.invokevirtual 317, 3) := dk182 (rd_c chX11_show_12_06 (j := 4) rfl rfl) (rd_c chX11_show_12_06 (j := 5) rfl rfl) (rd_c chX11_show_12_06 (j := 6) rfl rfl) rfl
theorem dX11_show_199 : decode cX11_show 199 = .ok (.istore 14, 2) := dk54 (rd_c chX11_show_12_06 (j := 7) rfl rfl) (rd_c chX11_show_12_06 (j := 8) rfl rfl)
theorem dX11_show_201 : decode cX11_show 201 = .ok (.iload 11, 2) := dk21 (rd_c chX11_show_12_06 (j := 9) rfl rfl) (rd_c chX11_show_12_06 (j := 10) rfl rfl)
theorem dX11_show_203 : decode cX11_show 203 = .ok (.ifCond .eq 73, 3) := dk153 (rd_c chX11_show_12_06 (j := 11) rfl rfl) (rd_c chX11_show_12_06 (j := 12) rfl rfl) (rd_c chX11_show_12_06 (j := 13) rfl rfl) rfl
theorem dX11_show_206 : decode cX11_show 206 = .ok (.aload_n 0, 1) := dk42 (rd_c chX11_show_12_06 (j := 14) rfl rfl)
theorem chX11_show_13_06 : ((cX11_show.data.toList.drop 208).take 16).map UInt8.toNat = [0, 86, 21, 13, 46, 16, 60, 160, 0, 18, 21, 14, 42, 180, 0, 89] := by decide +kernel
theorem dX11_show_207 : decode cX11_show 207 = .ok (.getfield 86, 3) := dk180 (rd_c chX11_show_12_06 (j := 15) rfl rfl) (rd_c chX11_show_13_06 (j := 0) rfl rfl) (rd_c chX11_show_13_06 (j := 1) rfl rfl) rfl
theorem dX11_show_210 : decode cX11_show 210 = .ok (.iload 13, 2) := dk21 (rd_c chX11_show_13_06 (j := 2) rfl rfl) (rd_c chX11_show_13_06 (j := 3) rfl rfl)
theorem dX11_show_212 : decode cX11_show 212 = .ok (.iaload, 1) := dk46 (rd_c chX11_show_13_06 (j := 4) rfl rfl)
theorem dX11_show_213 : decode cX11_show 213 = .ok (.bipush 60, 2) := dk16 (rd_c chX11_show_13_06 (j := 5) rfl rfl) (rd_c chX11_show_13_06 (j := 6) rfl rfl) rfl
theorem dX11_show_215 : decode cX11_show 215 = .ok (.if_icmp .ne 18, 3) := dk160 (rd_c chX11_show_13_06 (j := 7) rfl rfl) (rd_c chX11_show_13_06 (j := 8) rfl rfl) (rd_c chX11_show_13_06 (j := 9) rfl rfl) rfl
theorem dX11_show_218 : decode cX11_show 218 = .ok (.iload 14, 2) := dk21 (rd_c chX11_show_13_06 (j := 10) rfl rfl) (rd_c chX11_show_13_06 (j := 11) rfl rfl)
theorem dX11_show_220 : decode cX11_show 220 = .ok (.aload_n 0, 1) := dk42 (rd_c chX11_show_13_06 (j := 12) rfl rfl)
theorem dX11_show_221 : decode cX11_show 221 = .ok (.getfield 89, 3) := dk180 (rd_c chX11_show_13_06 (j := 13) rfl rfl) (rd_c chX11_show_13_06 (j := 14) rfl rfl) (rd_c chX11_show_13_06 (j := 15) rfl rfl) rfl
theorem chX11_show_14_06 : ((cX11_show.data.toList.drop 224).take 16).map UInt8.toNat = [21, 13, 46, 162, 0, 49, 167, 0, 42, 42, 180, 0, 86, 21, 13, 46] := by decide +kernel
theorem dX11_show_224 : decode cX11_show 224 = .ok (.iload 13, 2) := dk21 (rd_c chX11_show_14_06 (j := 0) rfl rfl) (rd_c chX11_show_14_06 (j := 1) rfl rfl)
theorem dX11_show_226 : decode cX11_show 226 = .ok (.iaload, 1) := dk46 (rd_c chX11_show_14_06 (j := 2) rfl rfl)
theorem dX11_show_227 : decode cX11_show 227 = .ok (.if_icmp .ge 49, 3) := dk162 (rd_c chX11_show_14_06 (j := 3) rfl rfl) (rd_c chX11_show_14_06 (j := 4) rfl rfl) (rd_c chX11_show_14_06 (j := 5) rfl rfl) rfl
theorem dX11_show_230 : decode cX11_show 230 = .ok (.goto 42, 3) := dk167 (rd_c chX11_show_14_06 (j := 6) rfl rfl) (rd_c chX11_show_14_06 (j := 7) rfl rfl) (rd_c chX11_show_14_06 (j := 8) rfl rfl) rfl
theorem dX11_show_233 : decode cX11_show 233 = .ok (.aload_n 0, 1) := dk42 (rd_c chX11_show_14_06 (j := 9) rfl rfl)
theorem dX11_show_234 : decode cX11_show 234 = .ok (.getfield 86, 3) := dk180 (rd_c chX11_show_14_06 (j := 10) rfl rfl) (rd_c chX11_show_14_06 (j := 11) rfl rfl) (rd_c chX11_show_14_06 (j := 12) rfl rfl) rfl
theorem dX11_show_237 : decode cX11_show 237 = .ok (.iload 13, 2) := dk21 (rd_c chX11_show_14_06 (j := 13) rfl rfl) (rd_c chX11_show_14_06 (j := 14) rfl rfl)
theorem dX11_show_239 : decode cX11_show 239 = .ok (.iaload, 1) := dk46 (rd_c chX11_show_14_06 (j := 15) rfl rfl)
theorem chX11_show_15_06 : ((cX11_show.data.toList.drop 240).take 16).map UInt8.toNat = [16, 62, 160, 0, 18, 21, 14, 42, 180, 0, 89, 21, 13, 46, 164, 0] := by decide +kernel
theorem dX11_show_240 : decode cX11_show 240 = .ok (.bipush 62, 2) := dk16 (rd_c chX11_show_15_06 (j := 0) rfl rfl) (rd_c chX11_show_15_06 (j := 1) rfl rfl) rfl
theorem dX11_show_242 : decode cX11_show 242 = .ok (.if_icmp .ne 18, 3) := dk160 (rd_c chX11_show_15_06 (j := 2) rfl rfl) (rd_c chX11_show_15_06 (j := 3) rfl rfl) (rd_c chX11_show_15_06 (j := 4) rfl rfl) rfl
theorem dX11_show_245 : decode cX11_show 245 = .ok (.iload 14, 2) := dk21 (rd_c chX11_show_15_06 (j := 5) rfl rfl) (rd_c chX11_show_15_06 (j := 6) rfl rfl)
theorem dX11_show_247 : decode cX11_show 247 = .ok (.aload_n 0, 1) := dk42 (rd_c chX11_show_15_06 (j := 7) rfl rfl)
theorem dX11_show_248 : decode cX11_show 248 = .ok (.getfield 89, 3) := dk180 (rd_c chX11_show_15_06 (j := 8) rfl rfl) (rd_c chX11_show_15_06 (j := 9) rfl rfl) (rd_c chX11_show_15_06 (j := 10) rfl rfl) rfl
theorem dX11_show_251 : decode cX11_show 251 = .ok (.iload 13, 2) := dk21 (rd_c chX11_show_15_06 (j := 11) rfl rfl) (rd_c chX11_show_15_06 (j := 12) rfl rfl)
theorem dX11_show_253 : decode cX11_show 253 = .ok (.iaload, 1) := dk46 (rd_c chX11_show_15_06 (j := 13) rfl rfl)
theorem chX11_show_16_06 : ((cX11_show.data.toList.drop 256).take 16).map UInt8.toNat = [22, 167, 0, 15, 21, 14, 42, 180, 0, 89, 21, 13, 46, 160, 0, 7] := by decide +kernel
theorem dX11_show_254 : decode cX11_show 254 = .ok (.if_icmp .le 22, 3) := dk164 (rd_c chX11_show_15_06 (j := 14) rfl rfl) (rd_c chX11_show_15_06 (j := 15) rfl rfl) (rd_c chX11_show_16_06 (j := 0) rfl rfl) rfl
theorem dX11_show_257 : decode cX11_show 257 = .ok (.goto 15, 3) := dk167 (rd_c chX11_show_16_06 (j := 1) rfl rfl) (rd_c chX11_show_16_06 (j := 2) rfl rfl) (rd_c chX11_show_16_06 (j := 3) rfl rfl) rfl
theorem dX11_show_260 : decode cX11_show 260 = .ok (.iload 14, 2) := dk21 (rd_c chX11_show_16_06 (j := 4) rfl rfl) (rd_c chX11_show_16_06 (j := 5) rfl rfl)
theorem dX11_show_262 : decode cX11_show 262 = .ok (.aload_n 0, 1) := dk42 (rd_c chX11_show_16_06 (j := 6) rfl rfl)
theorem dX11_show_263 : decode cX11_show 263 = .ok (.getfield 89, 3) := dk180 (rd_c chX11_show_16_06 (j := 7) rfl rfl) (rd_c chX11_show_16_06 (j := 8) rfl rfl) (rd_c chX11_show_16_06 (j := 9) rfl rfl) rfl
theorem dX11_show_266 : decode cX11_show 266 = .ok (.iload 13, 2) := dk21 (rd_c chX11_show_16_06 (j := 10) rfl rfl) (rd_c chX11_show_16_06 (j := 11) rfl rfl)
theorem dX11_show_268 : decode cX11_show 268 = .ok (.iaload, 1) := dk46 (rd_c chX11_show_16_06 (j := 12) rfl rfl)
theorem dX11_show_269 : decode cX11_show 269 = .ok (.if_icmp .ne 7, 3) := dk160 (rd_c chX11_show_16_06 (j := 13) rfl rfl) (rd_c chX11_show_16_06 (j := 14) rfl rfl) (rd_c chX11_show_16_06 (j := 15) rfl rfl) rfl
theorem chX11_show_17_06 : ((cX11_show.data.toList.drop 272).take 16).map UInt8.toNat = [4, 167, 0, 4, 3, 54, 11, 132, 12, 1, 167, 255, 123, 21, 11, 153] := by decide +kernel
theorem dX11_show_272 : decode cX11_show 272 = .ok (.iconst 1, 1) := dk4 (rd_c chX11_show_17_06 (j := 0) rfl rfl)
theorem dX11_show_273 : decode cX11_show 273 = .ok (.goto 4, 3) := dk167 (rd_c chX11_show_17_06 (j := 1) rfl rfl) (rd_c chX11_show_17_06 (j := 2) rfl rfl) (rd_c chX11_show_17_06 (j := 3) rfl rfl) rfl
theorem dX11_show_276 : decode cX11_show 276 = .ok (.iconst 0, 1) := dk3 (rd_c chX11_show_17_06 (j := 4) rfl rfl)
theorem dX11_show_277 : decode cX11_show 277 = .ok (.istore 11, 2) := dk54 (rd_c chX11_show_17_06 (j := 5) rfl rfl) (rd_c chX11_show_17_06 (j := 6) rfl rfl)
theorem dX11_show_279 : decode cX11_show 279 = .ok (.iinc 12 1, 3) := dk132 (rd_c chX11_show_17_06 (j := 7) rfl rfl) (rd_c chX11_show_17_06 (j := 8) rfl rfl) (rd_c chX11_show_17_06 (j := 9) rfl rfl) rfl
theorem dX11_show_282 : decode cX11_show 282 = .ok (.goto (-133), 3) := dk167 (rd_c chX11_show_17_06 (j := 10) rfl rfl) (rd_c chX11_show_17_06 (j := 11) rfl rfl) (rd_c chX11_show_17_06 (j := 12) rfl rfl) rfl
theorem dX11_show_285 : decode cX11_show 285 = .ok (.iload 11, 2) := dk21 (rd_c chX11_show_17_06 (j := 13) rfl rfl) (rd_c chX11_show_17_06 (j := 14) rfl rfl)
theorem chX11_show_18_06 : ((cX11_show.data.toList.drop 288).take 16).map UInt8.toNat = [0, 8, 21, 10, 167, 0, 5, 21, 9, 54, 9, 132, 10, 1, 167, 255] := by decide +kernel
theorem dX11_show_287 : decode cX11_show 287 = .ok (.ifCond .eq 8, 3) := dk153 (rd_c chX11_show_17_06 (j := 15) rfl rfl) (rd_c chX11_show_18_06 (j := 0) rfl rfl) (rd_c chX11_show_18_06 (j := 1) rfl rfl) rfl
theorem dX11_show_290 : decode cX11_show 290 = .ok (.iload 10, 2) := dk21 (rd_c chX11_show_18_06 (j := 2) rfl rfl) (rd_c chX11_show_18_06 (j := 3) rfl rfl)
theorem dX11_show_292 : decode cX11_show 292 = .ok (.goto 5, 3) := dk167 (rd_c chX11_show_18_06 (j := 4) rfl rfl) (rd_c chX11_show_18_06 (j := 5) rfl rfl) (rd_c chX11_show_18_06 (j := 6) rfl rfl) rfl
theorem dX11_show_295 : decode cX11_show 295 = .ok (.iload 9, 2) := dk21 (rd_c chX11_show_18_06 (j := 7) rfl rfl) (rd_c chX11_show_18_06 (j := 8) rfl rfl)
theorem dX11_show_297 : decode cX11_show 297 = .ok (.istore 9, 2) := dk54 (rd_c chX11_show_18_06 (j := 9) rfl rfl) (rd_c chX11_show_18_06 (j := 10) rfl rfl)
theorem dX11_show_299 : decode cX11_show 299 = .ok (.iinc 10 1, 3) := dk132 (rd_c chX11_show_18_06 (j := 11) rfl rfl) (rd_c chX11_show_18_06 (j := 12) rfl rfl) (rd_c chX11_show_18_06 (j := 13) rfl rfl) rfl
theorem chX11_show_19_06 : ((cX11_show.data.toList.drop 304).take 16).map UInt8.toNat = [80, 21, 9, 2, 160, 0, 7, 4, 167, 0, 15, 42, 180, 0, 77, 16] := by decide +kernel
theorem dX11_show_302 : decode cX11_show 302 = .ok (.goto (-176), 3) := dk167 (rd_c chX11_show_18_06 (j := 14) rfl rfl) (rd_c chX11_show_18_06 (j := 15) rfl rfl) (rd_c chX11_show_19_06 (j := 0) rfl rfl) rfl
theorem dX11_show_305 : decode cX11_show 305 = .ok (.iload 9, 2) := dk21 (rd_c chX11_show_19_06 (j := 1) rfl rfl) (rd_c chX11_show_19_06 (j := 2) rfl rfl)
theorem dX11_show_307 : decode cX11_show 307 = .ok (.iconst (-1), 1) := dk2 (rd_c chX11_show_19_06 (j := 3) rfl rfl)
theorem dX11_show_308 : decode cX11_show 308 = .ok (.if_icmp .ne 7, 3) := dk160 (rd_c chX11_show_19_06 (j := 4) rfl rfl) (rd_c chX11_show_19_06 (j := 5) rfl rfl) (rd_c chX11_show_19_06 (j := 6) rfl rfl) rfl
theorem dX11_show_311 : decode cX11_show 311 = .ok (.iconst 1, 1) := dk4 (rd_c chX11_show_19_06 (j := 7) rfl rfl)
theorem dX11_show_312 : decode cX11_show 312 = .ok (.goto 15, 3) := dk167 (rd_c chX11_show_19_06 (j := 8) rfl rfl) (rd_c chX11_show_19_06 (j := 9) rfl rfl) (rd_c chX11_show_19_06 (j := 10) rfl rfl) rfl
theorem dX11_show_315 : decode cX11_show 315 = .ok (.aload_n 0, 1) := dk42 (rd_c chX11_show_19_06 (j := 11) rfl rfl)
theorem dX11_show_316 : decode cX11_show 316 = .ok (.getfield 77, 3) := dk180 (rd_c chX11_show_19_06 (j := 12) rfl rfl) (rd_c chX11_show_19_06 (j := 13) rfl rfl) (rd_c chX11_show_19_06 (j := 14) rfl rfl) rfl
theorem chX11_show_20_06 : ((cX11_show.data.toList.drop 320).take 16).map UInt8.toNat = [12, 27, 104, 21, 9, 96, 46, 54, 10, 42, 180, 0, 101, 42, 180, 1] := by decide +kernel
theorem dX11_show_319 : decode cX11_show 319 = .ok (.bipush 12, 2) := dk16 (rd_c chX11_show_19_06 (j := 15) rfl rfl) (rd_c chX11_show_20_06 (j := 0) rfl rfl) rfl
theorem dX11_show_321 : decode cX11_show 321 = .ok (.iload_n 1, 1) := dk27 (rd_c chX11_show_20_06 (j := 1) rfl rfl)
theorem dX11_show_322 : decode cX11_show 322 = .ok (.imul, 1) := dk104 (rd_c chX11_show_20_06 (j := 2) rfl rfl)
theorem dX11_show_323 : decode cX11_show 323 = .ok (.iload 9, 2) := dk21 (rd_c chX11_show_20_06 (j := 3) rfl rfl) (rd_c chX11_show_20_06 (j := 4) rfl rfl)
theorem dX11_show_325 : decode cX11_show 325 = .ok (.iadd, 1) := dk96 (rd_c chX11_show_20_06 (j := 5) rfl rfl)
theorem dX11_show_326 : decode cX11_show 326 = .ok (.iaload, 1) := dk46 (rd_c chX11_show_20_06 (j := 6) rfl rfl)
theorem dX11_show_327 : decode cX11_show 327 = .ok (.istore 10, 2) := dk54 (rd_c chX11_show_20_06 (j := 7) rfl rfl) (rd_c chX11_show_20_06 (j := 8) rfl rfl)
theorem dX11_show_329 : decode cX11_show 329 = .ok (.aload_n 0, 1) := dk42 (rd_c chX11_show_20_06 (j := 9) rfl rfl)
theorem dX11_show_330 : decode cX11_show 330 = .ok (.getfield 101, 3) := dk180 (rd_c chX11_show_20_06 (j := 10) rfl rfl) (rd_c chX11_show_20_06 (j := 11) rfl rfl) (rd_c chX11_show_20_06 (j := 12) rfl rfl) rfl
theorem dX11_show_333 : decode cX11_show 333 = .ok (.aload_n 0, 1) := dk42 (rd_c chX11_show_20_06 (j := 13) rfl rfl)
theorem chX11_show_21_06 : ((cX11_show.data.toList.drop 336).take 16).map UInt8.toNat = [58, 27, 79, 42, 180, 0, 104, 42, 180, 1, 58, 28, 79, 42, 180, 0] := by decide +kernel
theorem dX11_show_334 : decode cX11_show 334 = .ok (.getfield 314, 3) := dk180 (rd_c chX11_show_20_06 (j := 14) rfl rfl) (rd_c chX11_show_20_06 (j := 15) rfl rfl) (rd_c chX11_show_21_06 (j := 0) rfl rfl) rfl
theorem dX11_show_337 : decode cX11_show 337 = .ok (.iload_n 1, 1) := dk27 (rd_c chX11_show_21_06 (j := 1) rfl rfl)
theorem dX11_show_338 : decode cX11_show 338 = .ok (.iastore, 1) := dk79 (rd_c chX11_show_21_06 (j := 2) rfl rfl)
theorem dX11_show_339 : decode cX11_show 339 = .ok (.aload_n 0, 1) := dk42 (rd_c chX11_show_21_06 (j := 3) rfl rfl)
theorem dX11_show_340 : decode cX11_show 340 = .ok (.getfield 104, 3) := dk180 (rd_c chX11_show_21_06 (j := 4) rfl rfl) (rd_c chX11_show_21_06 (j := 5) rfl rfl) (rd_c chX11_show_21_06 (j := 6) rfl rfl) rfl
theorem dX11_show_343 : decode cX11_show 343 = .ok (.aload_n 0, 1) := dk42 (rd_c chX11_show_21_06 (j := 7) rfl rfl)
theorem dX11_show_344 : decode cX11_show 344 = .ok (.getfield 314, 3) := dk180 (rd_c chX11_show_21_06 (j := 8) rfl rfl) (rd_c chX11_show_21_06 (j := 9) rfl rfl) (rd_c chX11_show_21_06 (j := 10) rfl rfl) rfl
theorem dX11_show_347 : decode cX11_show 347 = .ok (.iload_n 2, 1) := dk28 (rd_c chX11_show_21_06 (j := 11) rfl rfl)
theorem dX11_show_348 : decode cX11_show 348 = .ok (.iastore, 1) := dk79 (rd_c chX11_show_21_06 (j := 12) rfl rfl)
theorem dX11_show_349 : decode cX11_show 349 = .ok (.aload_n 0, 1) := dk42 (rd_c chX11_show_21_06 (j := 13) rfl rfl)
theorem chX11_show_22_06 : ((cX11_show.data.toList.drop 352).take 16).map UInt8.toNat = [107, 42, 180, 1, 58, 29, 79, 42, 180, 0, 110, 42, 180, 1, 58, 21] := by decide +kernel
theorem dX11_show_350 : decode cX11_show 350 = .ok (.getfield 107, 3) := dk180 (rd_c chX11_show_21_06 (j := 14) rfl rfl) (rd_c chX11_show_21_06 (j := 15) rfl rfl) (rd_c chX11_show_22_06 (j := 0) rfl rfl) rfl
theorem dX11_show_353 : decode cX11_show 353 = .ok (.aload_n 0, 1) := dk42 (rd_c chX11_show_22_06 (j := 1) rfl rfl)
theorem dX11_show_354 : decode cX11_show 354 = .ok (.getfield 314, 3) := dk180 (rd_c chX11_show_22_06 (j := 2) rfl rfl) (rd_c chX11_show_22_06 (j := 3) rfl rfl) (rd_c chX11_show_22_06 (j := 4) rfl rfl) rfl
theorem dX11_show_357 : decode cX11_show 357 = .ok (.iload_n 3, 1) := dk29 (rd_c chX11_show_22_06 (j := 5) rfl rfl)
theorem dX11_show_358 : decode cX11_show 358 = .ok (.iastore, 1) := dk79 (rd_c chX11_show_22_06 (j := 6) rfl rfl)
theorem dX11_show_359 : decode cX11_show 359 = .ok (.aload_n 0, 1) := dk42 (rd_c chX11_show_22_06 (j := 7) rfl rfl)
theorem dX11_show_360 : decode cX11_show 360 = .ok (.getfield 110, 3) := dk180 (rd_c chX11_show_22_06 (j := 8) rfl rfl) (rd_c chX11_show_22_06 (j := 9) rfl rfl) (rd_c chX11_show_22_06 (j := 10) rfl rfl) rfl
theorem dX11_show_363 : decode cX11_show 363 = .ok (.aload_n 0, 1) := dk42 (rd_c chX11_show_22_06 (j := 11) rfl rfl)
theorem dX11_show_364 : decode cX11_show 364 = .ok (.getfield 314, 3) := dk180 (rd_c chX11_show_22_06 (j := 12) rfl rfl) (rd_c chX11_show_22_06 (j := 13) rfl rfl) (rd_c chX11_show_22_06 (j := 14) rfl rfl) rfl
theorem chX11_show_23_06 : ((cX11_show.data.toList.drop 368).take 16).map UInt8.toNat = [8, 79, 42, 180, 0, 113, 42, 180, 1, 58, 21, 5, 79, 42, 180, 0] := by decide +kernel
theorem dX11_show_367 : decode cX11_show 367 = .ok (.iload 8, 2) := dk21 (rd_c chX11_show_22_06 (j := 15) rfl rfl) (rd_c chX11_show_23_06 (j := 0) rfl rfl)
theorem dX11_show_369 : decode cX11_show 369 = .ok (.iastore, 1) := dk79 (rd_c chX11_show_23_06 (j := 1) rfl rfl)
theorem dX11_show_370 : decode cX11_show 370 = .ok (.aload_n 0, 1) := dk42 (rd_c chX11_show_23_06 (j := 2) rfl rfl)
theorem dX11_show_371 : decode cX11_show 371 = .ok (.getfield 113, 3) := dk180 (rd_c chX11_show_23_06 (j := 3) rfl rfl) (rd_c chX11_show_23_06 (j := 4) rfl rfl) (rd_c chX11_show_23_06 (j := 5) rfl rfl) rfl
theorem dX11_show_374 : decode cX11_show 374 = .ok (.aload_n 0, 1) := dk42 (rd_c chX11_show_23_06 (j := 6) rfl rfl)
theorem dX11_show_375 : decode cX11_show 375 = .ok (.getfield 314, 3) := dk180 (rd_c chX11_show_23_06 (j := 7) rfl rfl) (rd_c chX11_show_23_06 (j := 8) rfl rfl) (rd_c chX11_show_23_06 (j := 9) rfl rfl) rfl
theorem dX11_show_378 : decode cX11_show 378 = .ok (.iload 5, 2) := dk21 (rd_c chX11_show_23_06 (j := 10) rfl rfl) (rd_c chX11_show_23_06 (j := 11) rfl rfl)
theorem dX11_show_380 : decode cX11_show 380 = .ok (.iastore, 1) := dk79 (rd_c chX11_show_23_06 (j := 12) rfl rfl)
theorem dX11_show_381 : decode cX11_show 381 = .ok (.aload_n 0, 1) := dk42 (rd_c chX11_show_23_06 (j := 13) rfl rfl)
theorem chX11_show_24_06 : ((cX11_show.data.toList.drop 384).take 16).map UInt8.toNat = [116, 42, 180, 1, 58, 21, 10, 79, 42, 180, 0, 119, 42, 180, 1, 58] := by decide +kernel
theorem dX11_show_382 : decode cX11_show 382 = .ok (.getfield 116, 3) := dk180 (rd_c chX11_show_23_06 (j := 14) rfl rfl) (rd_c chX11_show_23_06 (j := 15) rfl rfl) (rd_c chX11_show_24_06 (j := 0) rfl rfl) rfl
theorem dX11_show_385 : decode cX11_show 385 = .ok (.aload_n 0, 1) := dk42 (rd_c chX11_show_24_06 (j := 1) rfl rfl)
theorem dX11_show_386 : decode cX11_show 386 = .ok (.getfield 314, 3) := dk180 (rd_c chX11_show_24_06 (j := 2) rfl rfl) (rd_c chX11_show_24_06 (j := 3) rfl rfl) (rd_c chX11_show_24_06 (j := 4) rfl rfl) rfl
theorem dX11_show_389 : decode cX11_show 389 = .ok (.iload 10, 2) := dk21 (rd_c chX11_show_24_06 (j := 5) rfl rfl) (rd_c chX11_show_24_06 (j := 6) rfl rfl)
theorem dX11_show_391 : decode cX11_show 391 = .ok (.iastore, 1) := dk79 (rd_c chX11_show_24_06 (j := 7) rfl rfl)
theorem dX11_show_392 : decode cX11_show 392 = .ok (.aload_n 0, 1) := dk42 (rd_c chX11_show_24_06 (j := 8) rfl rfl)
theorem dX11_show_393 : decode cX11_show 393 = .ok (.getfield 119, 3) := dk180 (rd_c chX11_show_24_06 (j := 9) rfl rfl) (rd_c chX11_show_24_06 (j := 10) rfl rfl) (rd_c chX11_show_24_06 (j := 11) rfl rfl) rfl
theorem dX11_show_396 : decode cX11_show 396 = .ok (.aload_n 0, 1) := dk42 (rd_c chX11_show_24_06 (j := 12) rfl rfl)
theorem dX11_show_397 : decode cX11_show 397 = .ok (.getfield 314, 3) := dk180 (rd_c chX11_show_24_06 (j := 13) rfl rfl) (rd_c chX11_show_24_06 (j := 14) rfl rfl) (rd_c chX11_show_24_06 (j := 15) rfl rfl) rfl
theorem chX11_show_25_06 : ((cX11_show.data.toList.drop 400).take 16).map UInt8.toNat = [21, 9, 79, 42, 180, 0, 122, 42, 180, 1, 58, 42, 180, 0, 167, 79] := by decide +kernel
theorem dX11_show_400 : decode cX11_show 400 = .ok (.iload 9, 2) := dk21 (rd_c chX11_show_25_06 (j := 0) rfl rfl) (rd_c chX11_show_25_06 (j := 1) rfl rfl)
theorem dX11_show_402 : decode cX11_show 402 = .ok (.iastore, 1) := dk79 (rd_c chX11_show_25_06 (j := 2) rfl rfl)
theorem dX11_show_403 : decode cX11_show 403 = .ok (.aload_n 0, 1) := dk42 (rd_c chX11_show_25_06 (j := 3) rfl rfl)
theorem dX11_show_404 : decode cX11_show 404 = .ok (.getfield 122, 3) := dk180 (rd_c chX11_show_25_06 (j := 4) rfl rfl) (rd_c chX11_show_25_06 (j := 5) rfl rfl) (rd_c chX11_show_25_06 (j := 6) rfl rfl) rfl
theorem dX11_show_407 : decode cX11_show 407 = .ok (.aload_n 0, 1) := dk42 (rd_c chX11_show_25_06 (j := 7) rfl rfl)
theorem dX11_show_408 : decode cX11_show 408 = .ok (.getfield 314, 3) := dk180 (rd_c chX11_show_25_06 (j := 8) rfl rfl) (rd_c chX11_show_25_06 (j := 9) rfl rfl) (rd_c chX11_show_25_06 (j := 10) rfl rfl) rfl
theorem dX11_show_411 : decode cX11_show 411 = .ok (.aload_n 0, 1) := dk42 (rd_c chX11_show_25_06 (j := 11) rfl rfl)
theorem dX11_show_412 : decode cX11_show 412 = .ok (.getfield 167, 3) := dk180 (rd_c chX11_show_25_06 (j := 12) rfl rfl) (rd_c chX11_show_25_06 (j := 13) rfl rfl) (rd_c chX11_show_25_06 (j := 14) rfl rfl) rfl
theorem dX11_show_415 : decode cX11_show 415 = .ok (.iastore, 1) := dk79 (rd_c chX11_show_25_06 (j := 15) rfl rfl)
theorem chX11_show_26_06 : ((cX11_show.data.toList.drop 416).take 16).map UInt8.toNat = [42, 180, 0, 128, 42, 180, 1, 58, 9, 80, 42, 180, 0, 125, 42, 180] := by decide +kernel
theorem dX11_show_416 : decode cX11_show 416 = .ok (.aload_n 0, 1) := dk42 (rd_c chX11_show_26_06 (j := 0) rfl rfl)
theorem dX11_show_417 : decode cX11_show 417 = .ok (.getfield 128, 3) := dk180 (rd_c chX11_show_26_06 (j := 1) rfl rfl) (rd_c chX11_show_26_06 (j := 2) rfl rfl) (rd_c chX11_show_26_06 (j := 3) rfl rfl) rfl
theorem dX11_show_420 : decode cX11_show 420 = .ok (.aload_n 0, 1) := dk42 (rd_c chX11_show_26_06 (j := 4) rfl rfl)
theorem dX11_show_421 : decode cX11_show 421 = .ok (.getfield 314, 3) := dk180 (rd_c chX11_show_26_06 (j := 5) rfl rfl) (rd_c chX11_show_26_06 (j := 6) rfl rfl) (rd_c chX11_show_26_06 (j := 7) rfl rfl) rfl
theorem dX11_show_424 : decode cX11_show 424 = .ok (.lconst 0, 1) := dk9 (rd_c chX11_show_26_06 (j := 8) rfl rfl)
theorem dX11_show_425 : decode cX11_show 425 = .ok (.lastore, 1) := dk80 (rd_c chX11_show_26_06 (j := 9) rfl rfl)
theorem dX11_show_426 : decode cX11_show 426 = .ok (.aload_n 0, 1) := dk42 (rd_c chX11_show_26_06 (j := 10) rfl rfl)
theorem dX11_show_427 : decode cX11_show 427 = .ok (.getfield 125, 3) := dk180 (rd_c chX11_show_26_06 (j := 11) rfl rfl) (rd_c chX11_show_26_06 (j := 12) rfl rfl) (rd_c chX11_show_26_06 (j := 13) rfl rfl) rfl
theorem dX11_show_430 : decode cX11_show 430 = .ok (.aload_n 0, 1) := dk42 (rd_c chX11_show_26_06 (j := 14) rfl rfl)
theorem chX11_show_27_06 : ((cX11_show.data.toList.drop 432).take 16).map UInt8.toNat = [1, 58, 18, 159, 79, 21, 10, 154, 0, 104, 42, 180, 0, 128, 42, 180] := by decide +kernel
theorem dX11_show_431 : decode cX11_show 431 = .ok (.getfield 314, 3) := dk180 (rd_c chX11_show_26_06 (j := 15) rfl rfl) (rd_c chX11_show_27_06 (j := 0) rfl rfl) (rd_c chX11_show_27_06 (j := 1) rfl rfl) rfl
theorem dX11_show_434 : decode cX11_show 434 = .ok (.ldc 159, 2) := dk18 (rd_c chX11_show_27_06 (j := 2) rfl rfl) (rd_c chX11_show_27_06 (j := 3) rfl rfl)
theorem dX11_show_436 : decode cX11_show 436 = .ok (.iastore, 1) := dk79 (rd_c chX11_show_27_06 (j := 4) rfl rfl)
theorem dX11_show_437 : decode cX11_show 437 = .ok (.iload 10, 2) := dk21 (rd_c chX11_show_27_06 (j := 5) rfl rfl) (rd_c chX11_show_27_06 (j := 6) rfl rfl)
theorem dX11_show_439 : decode cX11_show 439 = .ok (.ifCond .ne 104, 3) := dk154 (rd_c chX11_show_27_06 (j := 7) rfl rfl) (rd_c chX11_show_27_06 (j := 8) rfl rfl) (rd_c chX11_show_27_06 (j := 9) rfl rfl) rfl
theorem dX11_show_442 : decode cX11_show 442 = .ok (.aload_n 0, 1) := dk42 (rd_c chX11_show_27_06 (j := 10) rfl rfl)
theorem dX11_show_443 : decode cX11_show 443 = .ok (.getfield 128, 3) := dk180 (rd_c chX11_show_27_06 (j := 11) rfl rfl) (rd_c chX11_show_27_06 (j := 12) rfl rfl) (rd_c chX11_show_27_06 (j := 13) rfl rfl) rfl
theorem dX11_show_446 : decode cX11_show 446 = .ok (.aload_n 0, 1) := dk42 (rd_c chX11_show_27_06 (j := 14) rfl rfl)
theorem chX11_show_28_06 : ((cX11_show.data.toList.drop 448).take 16).map UInt8.toNat = [1, 58, 21, 8, 133, 42, 180, 0, 21, 27, 46, 133, 105, 20, 1, 65] := by decide +kernel
theorem dX11_show_447 : decode cX11_show 447 = .ok (.getfield 314, 3) := dk180 (rd_c chX11_show_27_06 (j := 15) rfl rfl) (rd_c chX11_show_28_06 (j := 0) rfl rfl) (rd_c chX11_show_28_06 (j := 1) rfl rfl) rfl
theorem dX11_show_450 : decode cX11_show 450 = .ok (.iload 8, 2) := dk21 (rd_c chX11_show_28_06 (j := 2) rfl rfl) (rd_c chX11_show_28_06 (j := 3) rfl rfl)
theorem dX11_show_452 : decode cX11_show 452 = .ok (.i2l, 1) := dk133 (rd_c chX11_show_28_06 (j := 4) rfl rfl)
theorem dX11_show_453 : decode cX11_show 453 = .ok (.aload_n 0, 1) := dk42 (rd_c chX11_show_28_06 (j := 5) rfl rfl)
theorem dX11_show_454 : decode cX11_show 454 = .ok (.getfield 21, 3) := dk180 (rd_c chX11_show_28_06 (j := 6) rfl rfl) (rd_c chX11_show_28_06 (j := 7) rfl rfl) (rd_c chX11_show_28_06 (j := 8) rfl rfl) rfl
theorem dX11_show_457 : decode cX11_show 457 = .ok (.iload_n 1, 1) := dk27 (rd_c chX11_show_28_06 (j := 9) rfl rfl)
theorem dX11_show_458 : decode cX11_show 458 = .ok (.iaload, 1) := dk46 (rd_c chX11_show_28_06 (j := 10) rfl rfl)
theorem dX11_show_459 : decode cX11_show 459 = .ok (.i2l, 1) := dk133 (rd_c chX11_show_28_06 (j := 11) rfl rfl)
theorem dX11_show_460 : decode cX11_show 460 = .ok (.lmul, 1) := dk105 (rd_c chX11_show_28_06 (j := 12) rfl rfl)
theorem dX11_show_461 : decode cX11_show 461 = .ok (.ldc2_w 321, 3) := dk20 (rd_c chX11_show_28_06 (j := 13) rfl rfl) (rd_c chX11_show_28_06 (j := 14) rfl rfl) (rd_c chX11_show_28_06 (j := 15) rfl rfl) rfl
theorem chX11_show_29_06 : ((cX11_show.data.toList.drop 464).take 16).map UInt8.toNat = [109, 80, 42, 27, 3, 182, 0, 190, 42, 180, 0, 125, 42, 180, 1, 58] := by decide +kernel
theorem dX11_show_464 : decode cX11_show 464 = .ok (.ldiv, 1) := dk109 (rd_c chX11_show_29_06 (j := 0) rfl rfl)
theorem dX11_show_465 : decode cX11_show 465 = .ok (.lastore, 1) := dk80 (rd_c chX11_show_29_06 (j := 1) rfl rfl)
theorem dX11_show_466 : decode cX11_show 466 = .ok (.aload_n 0, 1) := dk42 (rd_c chX11_show_29_06 (j := 2) rfl rfl)
theorem dX11_show_467 : decode cX11_show 467 = .ok (.iload_n 1, 1) := dk27 (rd_c chX11_show_29_06 (j := 3) rfl rfl)
theorem dX11_show_468 : decode cX11_show 468 = .ok (.iconst 0, 1) := dk3 (rd_c chX11_show_29_06 (j := 4) rfl rfl)
theorem dX11_show_469 : decode cX11_show 469 = .ok (.invokevirtual 190, 3) := dk182 (rd_c chX11_show_29_06 (j := 5) rfl rfl) (rd_c chX11_show_29_06 (j := 6) rfl rfl) (rd_c chX11_show_29_06 (j := 7) rfl rfl) rfl
theorem dX11_show_472 : decode cX11_show 472 = .ok (.aload_n 0, 1) := dk42 (rd_c chX11_show_29_06 (j := 8) rfl rfl)
theorem dX11_show_473 : decode cX11_show 473 = .ok (.getfield 125, 3) := dk180 (rd_c chX11_show_29_06 (j := 9) rfl rfl) (rd_c chX11_show_29_06 (j := 10) rfl rfl) (rd_c chX11_show_29_06 (j := 11) rfl rfl) rfl
theorem dX11_show_476 : decode cX11_show 476 = .ok (.aload_n 0, 1) := dk42 (rd_c chX11_show_29_06 (j := 12) rfl rfl)
theorem dX11_show_477 : decode cX11_show 477 = .ok (.getfield 314, 3) := dk180 (rd_c chX11_show_29_06 (j := 13) rfl rfl) (rd_c chX11_show_29_06 (j := 14) rfl rfl) (rd_c chX11_show_29_06 (j := 15) rfl rfl) rfl
theorem chX11_show_30_06 : ((cX11_show.data.toList.drop 480).take 16).map UInt8.toNat = [42, 180, 0, 24, 3, 46, 18, 159, 160, 0, 8, 18, 159, 167, 0, 14] := by decide +kernel
theorem dX11_show_480 : decode cX11_show 480 = .ok (.aload_n 0, 1) := dk42 (rd_c chX11_show_30_06 (j := 0) rfl rfl)
theorem dX11_show_481 : decode cX11_show 481 = .ok (.getfield 24, 3) := dk180 (rd_c chX11_show_30_06 (j := 1) rfl rfl) (rd_c chX11_show_30_06 (j := 2) rfl rfl) (rd_c chX11_show_30_06 (j := 3) rfl rfl) rfl
theorem dX11_show_484 : decode cX11_show 484 = .ok (.iconst 0, 1) := dk3 (rd_c chX11_show_30_06 (j := 4) rfl rfl)
theorem dX11_show_485 : decode cX11_show 485 = .ok (.iaload, 1) := dk46 (rd_c chX11_show_30_06 (j := 5) rfl rfl)
theorem dX11_show_486 : decode cX11_show 486 = .ok (.ldc 159, 2) := dk18 (rd_c chX11_show_30_06 (j := 6) rfl rfl) (rd_c chX11_show_30_06 (j := 7) rfl rfl)
theorem dX11_show_488 : decode cX11_show 488 = .ok (.if_icmp .ne 8, 3) := dk160 (rd_c chX11_show_30_06 (j := 8) rfl rfl) (rd_c chX11_show_30_06 (j := 9) rfl rfl) (rd_c chX11_show_30_06 (j := 10) rfl rfl) rfl
theorem dX11_show_491 : decode cX11_show 491 = .ok (.ldc 159, 2) := dk18 (rd_c chX11_show_30_06 (j := 11) rfl rfl) (rd_c chX11_show_30_06 (j := 12) rfl rfl)
theorem dX11_show_493 : decode cX11_show 493 = .ok (.goto 14, 3) := dk167 (rd_c chX11_show_30_06 (j := 13) rfl rfl) (rd_c chX11_show_30_06 (j := 14) rfl rfl) (rd_c chX11_show_30_06 (j := 15) rfl rfl) rfl
theorem chX11_show_31_06 : ((cX11_show.data.toList.drop 496).take 16).map UInt8.toNat = [42, 180, 0, 167, 42, 180, 0, 24, 3, 46, 96, 79, 42, 180, 0, 45] := by decide +kernel
theorem dX11_show_496 : decode cX11_show 496 = .ok (.aload_n 0, 1) := dk42 (rd_c chX11_show_31_06 (j := 0) rfl rfl)
theorem dX11_show_497 : decode cX11_show 497 = .ok (.getfield 167, 3) := dk180 (rd_c chX11_show_31_06 (j := 1) rfl rfl) (rd_c chX11_show_31_06 (j := 2) rfl rfl) (rd_c chX11_show_31_06 (j := 3) rfl rfl) rfl
theorem dX11_show_500 : decode cX11_show 500 = .ok (.aload_n 0, 1) := dk42 (rd_c chX11_show_31_06 (j := 4) rfl rfl)
theorem dX11_show_501 : decode cX11_show 501 = .ok (.getfield 24, 3) := dk180 (rd_c chX11_show_31_06 (j := 5) rfl rfl) (rd_c chX11_show_31_06 (j := 6) rfl rfl) (rd_c chX11_show_31_06 (j := 7) rfl rfl) rfl
theorem dX11_show_504 : decode cX11_show 504 = .ok (.iconst 0, 1) := dk3 (rd_c chX11_show_31_06 (j := 8) rfl rfl)
theorem dX11_show_505 : decode cX11_show 505 = .ok (.iaload, 1) := dk46 (rd_c chX11_show_31_06 (j := 9) rfl rfl)
theorem dX11_show_506 : decode cX11_show 506 = .ok (.iadd, 1) := dk96 (rd_c chX11_show_31_06 (j := 10) rfl rfl)
theorem dX11_show_507 : decode cX11_show 507 = .ok (.iastore, 1) := dk79 (rd_c chX11_show_31_06 (j := 11) rfl rfl)
theorem dX11_show_508 : decode cX11_show 508 = .ok (.aload_n 0, 1) := dk42 (rd_c chX11_show_31_06 (j := 12) rfl rfl)
theorem dX11_show_509 : decode cX11_show 509 = .ok (.getfield 45, 3) := dk180 (rd_c chX11_show_31_06 (j := 13) rfl rfl) (rd_c chX11_show_31_06 (j := 14) rfl rfl) (rd_c chX11_show_31_06 (j := 15) rfl rfl) rfl
theorem chX11_show_32_06 : ((cX11_show.data.toList.drop 512).take 16).map UInt8.toNat = [28, 92, 46, 4, 96, 79, 42, 180, 0, 42, 28, 92, 46, 21, 7, 154] := by decide +kernel
theorem dX11_show_512 : decode cX11_show 512 = .ok (.iload_n 2, 1) := dk28 (rd_c chX11_show_32_06 (j := 0) rfl rfl)
theorem dX11_show_513 : decode cX11_show 513 = .ok (.dup2, 1) := dk92 (rd_c chX11_show_32_06 (j := 1) rfl rfl)
theorem dX11_show_514 : decode cX11_show 514 = .ok (.iaload, 1) := dk46 (rd_c chX11_show_32_06 (j := 2) rfl rfl)
theorem dX11_show_515 : decode cX11_show 515 = .ok (.iconst 1, 1) := dk4 (rd_c chX11_show_32_06 (j := 3) rfl rfl)
theorem dX11_show_516 : decode cX11_show 516 = .ok (.iadd, 1) := dk96 (rd_c chX11_show_32_06 (j := 4) rfl rfl)
theorem dX11_show_517 : decode cX11_show 517 = .ok (.iastore, 1) := dk79 (rd_c chX11_show_32_06 (j := 5) rfl rfl)
theorem dX11_show_518 : decode cX11_show 518 = .ok (.aload_n 0, 1) := dk42 (rd_c chX11_show_32_06 (j := 6) rfl rfl)
theorem dX11_show_519 : decode cX11_show 519 = .ok (.getfield 42, 3) := dk180 (rd_c chX11_show_32_06 (j := 7) rfl rfl) (rd_c chX11_show_32_06 (j := 8) rfl rfl) (rd_c chX11_show_32_06 (j := 9) rfl rfl) rfl
theorem dX11_show_522 : decode cX11_show 522 = .ok (.iload_n 2, 1) := dk28 (rd_c chX11_show_32_06 (j := 10) rfl rfl)
theorem dX11_show_523 : decode cX11_show 523 = .ok (.dup2, 1) := dk92 (rd_c chX11_show_32_06 (j := 11) rfl rfl)
theorem dX11_show_524 : decode cX11_show 524 = .ok (.iaload, 1) := dk46 (rd_c chX11_show_32_06 (j := 12) rfl rfl)
theorem dX11_show_525 : decode cX11_show 525 = .ok (.iload 7, 2) := dk21 (rd_c chX11_show_32_06 (j := 13) rfl rfl) (rd_c chX11_show_32_06 (j := 14) rfl rfl)
theorem chX11_show_33_06 : ((cX11_show.data.toList.drop 528).take 16).map UInt8.toNat = [0, 13, 21, 6, 153, 0, 8, 21, 8, 167, 0, 4, 3, 96, 79, 42] := by decide +kernel
theorem dX11_show_527 : decode cX11_show 527 = .ok (.ifCond .ne 13, 3) := dk154 (rd_c chX11_show_32_06 (j := 15) rfl rfl) (rd_c chX11_show_33_06 (j := 0) rfl rfl) (rd_c chX11_show_33_06 (j := 1) rfl rfl) rfl
theorem dX11_show_530 : decode cX11_show 530 = .ok (.iload 6, 2) := dk21 (rd_c chX11_show_33_06 (j := 2) rfl rfl) (rd_c chX11_show_33_06 (j := 3) rfl rfl)
theorem dX11_show_532 : decode cX11_show 532 = .ok (.ifCond .eq 8, 3) := dk153 (rd_c chX11_show_33_06 (j := 4) rfl rfl) (rd_c chX11_show_33_06 (j := 5) rfl rfl) (rd_c chX11_show_33_06 (j := 6) rfl rfl) rfl
theorem dX11_show_535 : decode cX11_show 535 = .ok (.iload 8, 2) := dk21 (rd_c chX11_show_33_06 (j := 7) rfl rfl) (rd_c chX11_show_33_06 (j := 8) rfl rfl)
theorem dX11_show_537 : decode cX11_show 537 = .ok (.goto 4, 3) := dk167 (rd_c chX11_show_33_06 (j := 9) rfl rfl) (rd_c chX11_show_33_06 (j := 10) rfl rfl) (rd_c chX11_show_33_06 (j := 11) rfl rfl) rfl
theorem dX11_show_540 : decode cX11_show 540 = .ok (.iconst 0, 1) := dk3 (rd_c chX11_show_33_06 (j := 12) rfl rfl)
theorem dX11_show_541 : decode cX11_show 541 = .ok (.iadd, 1) := dk96 (rd_c chX11_show_33_06 (j := 13) rfl rfl)
theorem dX11_show_542 : decode cX11_show 542 = .ok (.iastore, 1) := dk79 (rd_c chX11_show_33_06 (j := 14) rfl rfl)
theorem dX11_show_543 : decode cX11_show 543 = .ok (.aload_n 0, 1) := dk42 (rd_c chX11_show_33_06 (j := 15) rfl rfl)
theorem chX11_show_34_06 : ((cX11_show.data.toList.drop 544).take 16).map UInt8.toNat = [89, 180, 1, 58, 4, 96, 181, 1, 58, 21, 10, 172] := by decide +kernel
theorem dX11_show_544 : decode cX11_show 544 = .ok (.dup, 1) := dk89 (rd_c chX11_show_34_06 (j := 0) rfl rfl)
theorem dX11_show_545 : decode cX11_show 545 = .ok (.getfield 314, 3) := dk180 (rd_c chX11_show_34_06 (j := 1) rfl rfl) (rd_c chX11_show_34_06 (j := 2) rfl rfl) (rd_c chX11_show_34_06 (j := 3) rfl rfl) rfl
theorem dX11_show_548 : decode cX11_show 548 = .ok (.iconst 1, 1) := dk4 (rd_c chX11_show_34_06 (j := 4) rfl rfl)
theorem dX11_show_549 : decode cX11_show 549 = .ok (.iadd, 1) := dk96 (rd_c chX11_show_34_06 (j := 5) rfl rfl)
theorem dX11_show_550 : decode cX11_show 550 = .ok (.putfield 314, 3) := dk181 (rd_c chX11_show_34_06 (j := 6) rfl rfl) (rd_c chX11_show_34_06 (j := 7) rfl rfl) (rd_c chX11_show_34_06 (j := 8) rfl rfl) rfl
theorem dX11_show_553 : decode cX11_show 553 = .ok (.iload 10, 2) := dk21 (rd_c chX11_show_34_06 (j := 9) rfl rfl) (rd_c chX11_show_34_06 (j := 10) rfl rfl)
theorem dX11_show_555 : decode cX11_show 555 = .ok (.ireturn, 1) := dk172 (rd_c chX11_show_34_06 (j := 11) rfl rfl)
set_option maxRecDepth 20000 in
theorem ggX11_send_X11_isTown : GoodIn wsX11_send wsX11_isTown := goodIn_sub (show ∀ w ∈ wsX11_isTown, w ∈ wsX11_send from (List.forall_mem_cons.mpr ⟨List.mem_cons_of_mem _ (List.mem_append_left _ (List.mem_of_getElem? (i := 6) rfl)), (fun _ h => absurd h List.not_mem_nil)⟩)) (by decide +kernel)
set_option maxRecDepth 20000 in
theorem gX11_send_X11_isTown : GoodIn wsX11_send (va_wsS RX11 174 yX11_isTown wsX11_isTown) := goodIn_app (goodIn_sub (List.forall_mem_cons.mpr ⟨List.mem_cons_of_mem _ (List.mem_append_left _ (List.mem_of_getElem? (i := 3) rfl)), (List.forall_mem_cons.mpr ⟨List.mem_cons_of_mem _ (List.mem_append_left _ (List.mem_of_getElem? (i := 4) rfl)), (List.forall_mem_cons.mpr ⟨List.mem_cons_of_mem _ (List.mem_append_left _ (List.mem_of_getElem? (i := 5) rfl)), (fun _ h => absurd h List.not_mem_nil)⟩)⟩)⟩) (by decide +kernel)) ggX11_send_X11_isTown
set_option maxRecDepth 20000 in
theorem ggX11_send_X11_in : GoodIn wsX11_send wsX11_in := goodIn_sub (show ∀ w ∈ wsX11_in, w ∈ wsX11_send from (List.forall_mem_cons.mpr ⟨List.mem_cons_of_mem _ (List.mem_append_left _ (List.mem_of_getElem? (i := 9) rfl)), (fun _ h => absurd h List.not_mem_nil)⟩)) (by decide +kernel)
set_option maxRecDepth 20000 in
theorem gX11_send_X11_in : GoodIn wsX11_send (va_wsS RX11 170 yX11_in wsX11_in) := goodIn_app (goodIn_sub (List.forall_mem_cons.mpr ⟨List.mem_cons_of_mem _ (List.mem_append_left _ (List.mem_of_getElem? (i := 7) rfl)), (List.forall_mem_cons.mpr ⟨List.mem_cons_of_mem _ (List.mem_append_left _ (List.mem_of_getElem? (i := 8) rfl)), (List.forall_mem_cons.mpr ⟨List.mem_cons_of_mem _ (List.mem_append_left _ (List.mem_of_getElem? (i := 5) rfl)), (fun _ h => absurd h List.not_mem_nil)⟩)⟩)⟩) (by decide +kernel)) ggX11_send_X11_in
theorem chX11_send_0_06 : ((cX11_send.data.toList.drop 0).take 16).map UInt8.toNat = [27, 184, 0, 174, 153, 0, 32, 27, 153, 0, 28, 28, 4, 19, 1, 67] := by decide +kernel
theorem dX11_send_0 : decode cX11_send 0 = .ok (.iload_n 1, 1) := dk27 (rd_c chX11_send_0_06 (j := 0) rfl rfl)
theorem dX11_send_1 : decode cX11_send 1 = .ok (.invokestatic 174, 3) := dk184 (rd_c chX11_send_0_06 (j := 1) rfl rfl) (rd_c chX11_send_0_06 (j := 2) rfl rfl) (rd_c chX11_send_0_06 (j := 3) rfl rfl) rfl
theorem dX11_send_4 : decode cX11_send 4 = .ok (.ifCond .eq 32, 3) := dk153 (rd_c chX11_send_0_06 (j := 4) rfl rfl) (rd_c chX11_send_0_06 (j := 5) rfl rfl) (rd_c chX11_send_0_06 (j := 6) rfl rfl) rfl
theorem dX11_send_7 : decode cX11_send 7 = .ok (.iload_n 1, 1) := dk27 (rd_c chX11_send_0_06 (j := 7) rfl rfl)
theorem dX11_send_8 : decode cX11_send 8 = .ok (.ifCond .eq 28, 3) := dk153 (rd_c chX11_send_0_06 (j := 8) rfl rfl) (rd_c chX11_send_0_06 (j := 9) rfl rfl) (rd_c chX11_send_0_06 (j := 10) rfl rfl) rfl
theorem dX11_send_11 : decode cX11_send 11 = .ok (.iload_n 2, 1) := dk28 (rd_c chX11_send_0_06 (j := 11) rfl rfl)
theorem dX11_send_12 : decode cX11_send 12 = .ok (.iconst 1, 1) := dk4 (rd_c chX11_send_0_06 (j := 12) rfl rfl)
theorem dX11_send_13 : decode cX11_send 13 = .ok (.ldc_w 323, 3) := dk19 (rd_c chX11_send_0_06 (j := 13) rfl rfl) (rd_c chX11_send_0_06 (j := 14) rfl rfl) (rd_c chX11_send_0_06 (j := 15) rfl rfl) rfl
theorem chX11_send_1_06 : ((cX11_send.data.toList.drop 16).take 16).map UInt8.toNat = [184, 0, 170, 153, 0, 17, 42, 180, 0, 132, 27, 46, 28, 96, 19, 1] := by decide +kernel
theorem dX11_send_16 : decode cX11_send 16 = .ok (.invokestatic 170, 3) := dk184 (rd_c chX11_send_1_06 (j := 0) rfl rfl) (rd_c chX11_send_1_06 (j := 1) rfl rfl) (rd_c chX11_send_1_06 (j := 2) rfl rfl) rfl
theorem dX11_send_19 : decode cX11_send 19 = .ok (.ifCond .eq 17, 3) := dk153 (rd_c chX11_send_1_06 (j := 3) rfl rfl) (rd_c chX11_send_1_06 (j := 4) rfl rfl) (rd_c chX11_send_1_06 (j := 5) rfl rfl) rfl
theorem dX11_send_22 : decode cX11_send 22 = .ok (.aload_n 0, 1) := dk42 (rd_c chX11_send_1_06 (j := 6) rfl rfl)
theorem dX11_send_23 : decode cX11_send 23 = .ok (.getfield 132, 3) := dk180 (rd_c chX11_send_1_06 (j := 7) rfl rfl) (rd_c chX11_send_1_06 (j := 8) rfl rfl) (rd_c chX11_send_1_06 (j := 9) rfl rfl) rfl
theorem dX11_send_26 : decode cX11_send 26 = .ok (.iload_n 1, 1) := dk27 (rd_c chX11_send_1_06 (j := 10) rfl rfl)
theorem dX11_send_27 : decode cX11_send 27 = .ok (.iaload, 1) := dk46 (rd_c chX11_send_1_06 (j := 11) rfl rfl)
theorem dX11_send_28 : decode cX11_send 28 = .ok (.iload_n 2, 1) := dk28 (rd_c chX11_send_1_06 (j := 12) rfl rfl)
theorem dX11_send_29 : decode cX11_send 29 = .ok (.iadd, 1) := dk96 (rd_c chX11_send_1_06 (j := 13) rfl rfl)
theorem chX11_send_2_06 : ((cX11_send.data.toList.drop 32).take 16).map UInt8.toNat = [68, 164, 0, 5, 2, 172, 42, 180, 0, 132, 27, 92, 46, 28, 96, 79] := by decide +kernel
theorem dX11_send_30 : decode cX11_send 30 = .ok (.ldc_w 324, 3) := dk19 (rd_c chX11_send_1_06 (j := 14) rfl rfl) (rd_c chX11_send_1_06 (j := 15) rfl rfl) (rd_c chX11_send_2_06 (j := 0) rfl rfl) rfl
theorem dX11_send_33 : decode cX11_send 33 = .ok (.if_icmp .le 5, 3) := dk164 (rd_c chX11_send_2_06 (j := 1) rfl rfl) (rd_c chX11_send_2_06 (j := 2) rfl rfl) (rd_c chX11_send_2_06 (j := 3) rfl rfl) rfl
theorem dX11_send_36 : decode cX11_send 36 = .ok (.iconst (-1), 1) := dk2 (rd_c chX11_send_2_06 (j := 4) rfl rfl)
theorem dX11_send_37 : decode cX11_send 37 = .ok (.ireturn, 1) := dk172 (rd_c chX11_send_2_06 (j := 5) rfl rfl)
theorem dX11_send_38 : decode cX11_send 38 = .ok (.aload_n 0, 1) := dk42 (rd_c chX11_send_2_06 (j := 6) rfl rfl)
theorem dX11_send_39 : decode cX11_send 39 = .ok (.getfield 132, 3) := dk180 (rd_c chX11_send_2_06 (j := 7) rfl rfl) (rd_c chX11_send_2_06 (j := 8) rfl rfl) (rd_c chX11_send_2_06 (j := 9) rfl rfl) rfl
theorem dX11_send_42 : decode cX11_send 42 = .ok (.iload_n 1, 1) := dk27 (rd_c chX11_send_2_06 (j := 10) rfl rfl)
theorem dX11_send_43 : decode cX11_send 43 = .ok (.dup2, 1) := dk92 (rd_c chX11_send_2_06 (j := 11) rfl rfl)
theorem dX11_send_44 : decode cX11_send 44 = .ok (.iaload, 1) := dk46 (rd_c chX11_send_2_06 (j := 12) rfl rfl)
theorem dX11_send_45 : decode cX11_send 45 = .ok (.iload_n 2, 1) := dk28 (rd_c chX11_send_2_06 (j := 13) rfl rfl)
theorem dX11_send_46 : decode cX11_send 46 = .ok (.iadd, 1) := dk96 (rd_c chX11_send_2_06 (j := 14) rfl rfl)
theorem dX11_send_47 : decode cX11_send 47 = .ok (.iastore, 1) := dk79 (rd_c chX11_send_2_06 (j := 15) rfl rfl)
theorem chX11_send_3_06 : ((cX11_send.data.toList.drop 48).take 16).map UInt8.toNat = [42, 180, 0, 132, 27, 46, 172] := by decide +kernel
theorem dX11_send_48 : decode cX11_send 48 = .ok (.aload_n 0, 1) := dk42 (rd_c chX11_send_3_06 (j := 0) rfl rfl)
theorem dX11_send_49 : decode cX11_send 49 = .ok (.getfield 132, 3) := dk180 (rd_c chX11_send_3_06 (j := 1) rfl rfl) (rd_c chX11_send_3_06 (j := 2) rfl rfl) (rd_c chX11_send_3_06 (j := 3) rfl rfl) rfl
theorem dX11_send_52 : decode cX11_send 52 = .ok (.iload_n 1, 1) := dk27 (rd_c chX11_send_3_06 (j := 4) rfl rfl)
theorem dX11_send_53 : decode cX11_send 53 = .ok (.iaload, 1) := dk46 (rd_c chX11_send_3_06 (j := 5) rfl rfl)
theorem dX11_send_54 : decode cX11_send 54 = .ok (.ireturn, 1) := dk172 (rd_c chX11_send_3_06 (j := 6) rfl rfl)
set_option maxRecDepth 20000 in
theorem ggX11_shown_X11_in : GoodIn wsX11_shown wsX11_in := goodIn_sub (show ∀ w ∈ wsX11_in, w ∈ wsX11_shown from (List.forall_mem_cons.mpr ⟨List.mem_cons_of_mem _ (List.mem_append_left _ (List.mem_of_getElem? (i := 14) rfl)), (fun _ h => absurd h List.not_mem_nil)⟩)) (by decide +kernel)
set_option maxRecDepth 20000 in
theorem gX11_shown_X11_in : GoodIn wsX11_shown (va_wsS RX11 170 yX11_in wsX11_in) := goodIn_app (goodIn_sub (List.forall_mem_cons.mpr ⟨List.mem_cons_of_mem _ (List.mem_append_left _ (List.mem_of_getElem? (i := 11) rfl)), (List.forall_mem_cons.mpr ⟨List.mem_cons_of_mem _ (List.mem_append_left _ (List.mem_of_getElem? (i := 12) rfl)), (List.forall_mem_cons.mpr ⟨List.mem_cons_of_mem _ (List.mem_append_left _ (List.mem_of_getElem? (i := 13) rfl)), (fun _ h => absurd h List.not_mem_nil)⟩)⟩)⟩) (by decide +kernel)) ggX11_shown_X11_in
theorem chX11_shown_0_06 : ((cX11_shown.data.toList.drop 0).take 16).map UInt8.toNat = [27, 3, 42, 180, 1, 58, 4, 100, 184, 0, 170, 154, 0, 5, 2, 172] := by decide +kernel
theorem dX11_shown_0 : decode cX11_shown 0 = .ok (.iload_n 1, 1) := dk27 (rd_c chX11_shown_0_06 (j := 0) rfl rfl)
theorem dX11_shown_1 : decode cX11_shown 1 = .ok (.iconst 0, 1) := dk3 (rd_c chX11_shown_0_06 (j := 1) rfl rfl)
theorem dX11_shown_2 : decode cX11_shown 2 = .ok (.aload_n 0, 1) := dk42 (rd_c chX11_shown_0_06 (j := 2) rfl rfl)
theorem dX11_shown_3 : decode cX11_shown 3 = .ok (.getfield 314, 3) := dk180 (rd_c chX11_shown_0_06 (j := 3) rfl rfl) (rd_c chX11_shown_0_06 (j := 4) rfl rfl) (rd_c chX11_shown_0_06 (j := 5) rfl rfl) rfl
theorem dX11_shown_6 : decode cX11_shown 6 = .ok (.iconst 1, 1) := dk4 (rd_c chX11_shown_0_06 (j := 6) rfl rfl)
theorem dX11_shown_7 : decode cX11_shown 7 = .ok (.isub, 1) := dk100 (rd_c chX11_shown_0_06 (j := 7) rfl rfl)
theorem dX11_shown_8 : decode cX11_shown 8 = .ok (.invokestatic 170, 3) := dk184 (rd_c chX11_shown_0_06 (j := 8) rfl rfl) (rd_c chX11_shown_0_06 (j := 9) rfl rfl) (rd_c chX11_shown_0_06 (j := 10) rfl rfl) rfl
theorem dX11_shown_11 : decode cX11_shown 11 = .ok (.ifCond .ne 5, 3) := dk154 (rd_c chX11_shown_0_06 (j := 11) rfl rfl) (rd_c chX11_shown_0_06 (j := 12) rfl rfl) (rd_c chX11_shown_0_06 (j := 13) rfl rfl) rfl
theorem dX11_shown_14 : decode cX11_shown 14 = .ok (.iconst (-1), 1) := dk2 (rd_c chX11_shown_0_06 (j := 14) rfl rfl)
theorem dX11_shown_15 : decode cX11_shown 15 = .ok (.ireturn, 1) := dk172 (rd_c chX11_shown_0_06 (j := 15) rfl rfl)
theorem chX11_shown_1_06 : ((cX11_shown.data.toList.drop 16).take 16).map UInt8.toNat = [28, 170, 0, 0, 0, 0, 0, 130, 0, 0, 0, 0, 0, 0, 0, 8] := by decide +kernel
theorem dX11_shown_16 : decode cX11_shown 16 = .ok (.iload_n 2, 1) := dk28 (rd_c chX11_shown_1_06 (j := 0) rfl rfl)
theorem dX11_shown_17 : decode cX11_shown 17 = .ok (.tableswitch 130 0 8 #[51, 58, 65, 72, 79, 86, 93, 101, 108], 51) := by decide +kernel
theorem chX11_shown_4_06 : ((cX11_shown.data.toList.drop 64).take 16).map UInt8.toNat = [0, 0, 0, 108, 42, 180, 0, 101, 27, 46, 172, 42, 180, 0, 104, 27] := by decide +kernel
theorem dX11_shown_68 : decode cX11_shown 68 = .ok (.aload_n 0, 1) := dk42 (rd_c chX11_shown_4_06 (j := 4) rfl rfl)
theorem dX11_shown_69 : decode cX11_shown 69 = .ok (.getfield 101, 3) := dk180 (rd_c chX11_shown_4_06 (j := 5) rfl rfl) (rd_c chX11_shown_4_06 (j := 6) rfl rfl) (rd_c chX11_shown_4_06 (j := 7) rfl rfl) rfl
theorem dX11_shown_72 : decode cX11_shown 72 = .ok (.iload_n 1, 1) := dk27 (rd_c chX11_shown_4_06 (j := 8) rfl rfl)
theorem dX11_shown_73 : decode cX11_shown 73 = .ok (.iaload, 1) := dk46 (rd_c chX11_shown_4_06 (j := 9) rfl rfl)
theorem dX11_shown_74 : decode cX11_shown 74 = .ok (.ireturn, 1) := dk172 (rd_c chX11_shown_4_06 (j := 10) rfl rfl)
theorem dX11_shown_75 : decode cX11_shown 75 = .ok (.aload_n 0, 1) := dk42 (rd_c chX11_shown_4_06 (j := 11) rfl rfl)
theorem dX11_shown_76 : decode cX11_shown 76 = .ok (.getfield 104, 3) := dk180 (rd_c chX11_shown_4_06 (j := 12) rfl rfl) (rd_c chX11_shown_4_06 (j := 13) rfl rfl) (rd_c chX11_shown_4_06 (j := 14) rfl rfl) rfl
theorem dX11_shown_79 : decode cX11_shown 79 = .ok (.iload_n 1, 1) := dk27 (rd_c chX11_shown_4_06 (j := 15) rfl rfl)
theorem chX11_shown_5_06 : ((cX11_shown.data.toList.drop 80).take 16).map UInt8.toNat = [46, 172, 42, 180, 0, 107, 27, 46, 172, 42, 180, 0, 110, 27, 46, 172] := by decide +kernel
theorem dX11_shown_80 : decode cX11_shown 80 = .ok (.iaload, 1) := dk46 (rd_c chX11_shown_5_06 (j := 0) rfl rfl)
theorem dX11_shown_81 : decode cX11_shown 81 = .ok (.ireturn, 1) := dk172 (rd_c chX11_shown_5_06 (j := 1) rfl rfl)
theorem dX11_shown_82 : decode cX11_shown 82 = .ok (.aload_n 0, 1) := dk42 (rd_c chX11_shown_5_06 (j := 2) rfl rfl)
theorem dX11_shown_83 : decode cX11_shown 83 = .ok (.getfield 107, 3) := dk180 (rd_c chX11_shown_5_06 (j := 3) rfl rfl) (rd_c chX11_shown_5_06 (j := 4) rfl rfl) (rd_c chX11_shown_5_06 (j := 5) rfl rfl) rfl
theorem dX11_shown_86 : decode cX11_shown 86 = .ok (.iload_n 1, 1) := dk27 (rd_c chX11_shown_5_06 (j := 6) rfl rfl)
theorem dX11_shown_87 : decode cX11_shown 87 = .ok (.iaload, 1) := dk46 (rd_c chX11_shown_5_06 (j := 7) rfl rfl)
theorem dX11_shown_88 : decode cX11_shown 88 = .ok (.ireturn, 1) := dk172 (rd_c chX11_shown_5_06 (j := 8) rfl rfl)
theorem dX11_shown_89 : decode cX11_shown 89 = .ok (.aload_n 0, 1) := dk42 (rd_c chX11_shown_5_06 (j := 9) rfl rfl)
theorem dX11_shown_90 : decode cX11_shown 90 = .ok (.getfield 110, 3) := dk180 (rd_c chX11_shown_5_06 (j := 10) rfl rfl) (rd_c chX11_shown_5_06 (j := 11) rfl rfl) (rd_c chX11_shown_5_06 (j := 12) rfl rfl) rfl
theorem dX11_shown_93 : decode cX11_shown 93 = .ok (.iload_n 1, 1) := dk27 (rd_c chX11_shown_5_06 (j := 13) rfl rfl)
theorem dX11_shown_94 : decode cX11_shown 94 = .ok (.iaload, 1) := dk46 (rd_c chX11_shown_5_06 (j := 14) rfl rfl)
theorem dX11_shown_95 : decode cX11_shown 95 = .ok (.ireturn, 1) := dk172 (rd_c chX11_shown_5_06 (j := 15) rfl rfl)
theorem chX11_shown_6_06 : ((cX11_shown.data.toList.drop 96).take 16).map UInt8.toNat = [42, 180, 0, 116, 27, 46, 172, 42, 180, 0, 119, 27, 46, 172, 42, 180] := by decide +kernel
theorem dX11_shown_96 : decode cX11_shown 96 = .ok (.aload_n 0, 1) := dk42 (rd_c chX11_shown_6_06 (j := 0) rfl rfl)
theorem dX11_shown_97 : decode cX11_shown 97 = .ok (.getfield 116, 3) := dk180 (rd_c chX11_shown_6_06 (j := 1) rfl rfl) (rd_c chX11_shown_6_06 (j := 2) rfl rfl) (rd_c chX11_shown_6_06 (j := 3) rfl rfl) rfl
theorem dX11_shown_100 : decode cX11_shown 100 = .ok (.iload_n 1, 1) := dk27 (rd_c chX11_shown_6_06 (j := 4) rfl rfl)
theorem dX11_shown_101 : decode cX11_shown 101 = .ok (.iaload, 1) := dk46 (rd_c chX11_shown_6_06 (j := 5) rfl rfl)
theorem dX11_shown_102 : decode cX11_shown 102 = .ok (.ireturn, 1) := dk172 (rd_c chX11_shown_6_06 (j := 6) rfl rfl)
theorem dX11_shown_103 : decode cX11_shown 103 = .ok (.aload_n 0, 1) := dk42 (rd_c chX11_shown_6_06 (j := 7) rfl rfl)
theorem dX11_shown_104 : decode cX11_shown 104 = .ok (.getfield 119, 3) := dk180 (rd_c chX11_shown_6_06 (j := 8) rfl rfl) (rd_c chX11_shown_6_06 (j := 9) rfl rfl) (rd_c chX11_shown_6_06 (j := 10) rfl rfl) rfl
theorem dX11_shown_107 : decode cX11_shown 107 = .ok (.iload_n 1, 1) := dk27 (rd_c chX11_shown_6_06 (j := 11) rfl rfl)
theorem dX11_shown_108 : decode cX11_shown 108 = .ok (.iaload, 1) := dk46 (rd_c chX11_shown_6_06 (j := 12) rfl rfl)
theorem dX11_shown_109 : decode cX11_shown 109 = .ok (.ireturn, 1) := dk172 (rd_c chX11_shown_6_06 (j := 13) rfl rfl)
theorem dX11_shown_110 : decode cX11_shown 110 = .ok (.aload_n 0, 1) := dk42 (rd_c chX11_shown_6_06 (j := 14) rfl rfl)
theorem chX11_shown_7_06 : ((cX11_shown.data.toList.drop 112).take 16).map UInt8.toNat = [0, 128, 27, 47, 136, 172, 42, 180, 0, 122, 27, 46, 172, 42, 180, 0] := by decide +kernel
theorem dX11_shown_111 : decode cX11_shown 111 = .ok (.getfield 128, 3) := dk180 (rd_c chX11_shown_6_06 (j := 15) rfl rfl) (rd_c chX11_shown_7_06 (j := 0) rfl rfl) (rd_c chX11_shown_7_06 (j := 1) rfl rfl) rfl
theorem dX11_shown_114 : decode cX11_shown 114 = .ok (.iload_n 1, 1) := dk27 (rd_c chX11_shown_7_06 (j := 2) rfl rfl)
theorem dX11_shown_115 : decode cX11_shown 115 = .ok (.laload, 1) := dk47 (rd_c chX11_shown_7_06 (j := 3) rfl rfl)
theorem dX11_shown_116 : decode cX11_shown 116 = .ok (.l2i, 1) := dk136 (rd_c chX11_shown_7_06 (j := 4) rfl rfl)
theorem dX11_shown_117 : decode cX11_shown 117 = .ok (.ireturn, 1) := dk172 (rd_c chX11_shown_7_06 (j := 5) rfl rfl)
theorem dX11_shown_118 : decode cX11_shown 118 = .ok (.aload_n 0, 1) := dk42 (rd_c chX11_shown_7_06 (j := 6) rfl rfl)
theorem dX11_shown_119 : decode cX11_shown 119 = .ok (.getfield 122, 3) := dk180 (rd_c chX11_shown_7_06 (j := 7) rfl rfl) (rd_c chX11_shown_7_06 (j := 8) rfl rfl) (rd_c chX11_shown_7_06 (j := 9) rfl rfl) rfl
theorem dX11_shown_122 : decode cX11_shown 122 = .ok (.iload_n 1, 1) := dk27 (rd_c chX11_shown_7_06 (j := 10) rfl rfl)
theorem dX11_shown_123 : decode cX11_shown 123 = .ok (.iaload, 1) := dk46 (rd_c chX11_shown_7_06 (j := 11) rfl rfl)
theorem dX11_shown_124 : decode cX11_shown 124 = .ok (.ireturn, 1) := dk172 (rd_c chX11_shown_7_06 (j := 12) rfl rfl)
theorem dX11_shown_125 : decode cX11_shown 125 = .ok (.aload_n 0, 1) := dk42 (rd_c chX11_shown_7_06 (j := 13) rfl rfl)
theorem chX11_shown_8_06 : ((cX11_shown.data.toList.drop 128).take 16).map UInt8.toNat = [125, 27, 46, 18, 159, 160, 0, 7, 2, 167, 0, 9, 42, 180, 0, 125] := by decide +kernel
theorem dX11_shown_126 : decode cX11_shown 126 = .ok (.getfield 125, 3) := dk180 (rd_c chX11_shown_7_06 (j := 14) rfl rfl) (rd_c chX11_shown_7_06 (j := 15) rfl rfl) (rd_c chX11_shown_8_06 (j := 0) rfl rfl) rfl
theorem dX11_shown_129 : decode cX11_shown 129 = .ok (.iload_n 1, 1) := dk27 (rd_c chX11_shown_8_06 (j := 1) rfl rfl)
theorem dX11_shown_130 : decode cX11_shown 130 = .ok (.iaload, 1) := dk46 (rd_c chX11_shown_8_06 (j := 2) rfl rfl)
theorem dX11_shown_131 : decode cX11_shown 131 = .ok (.ldc 159, 2) := dk18 (rd_c chX11_shown_8_06 (j := 3) rfl rfl) (rd_c chX11_shown_8_06 (j := 4) rfl rfl)
theorem dX11_shown_133 : decode cX11_shown 133 = .ok (.if_icmp .ne 7, 3) := dk160 (rd_c chX11_shown_8_06 (j := 5) rfl rfl) (rd_c chX11_shown_8_06 (j := 6) rfl rfl) (rd_c chX11_shown_8_06 (j := 7) rfl rfl) rfl
theorem dX11_shown_136 : decode cX11_shown 136 = .ok (.iconst (-1), 1) := dk2 (rd_c chX11_shown_8_06 (j := 8) rfl rfl)
theorem dX11_shown_137 : decode cX11_shown 137 = .ok (.goto 9, 3) := dk167 (rd_c chX11_shown_8_06 (j := 9) rfl rfl) (rd_c chX11_shown_8_06 (j := 10) rfl rfl) (rd_c chX11_shown_8_06 (j := 11) rfl rfl) rfl
theorem dX11_shown_140 : decode cX11_shown 140 = .ok (.aload_n 0, 1) := dk42 (rd_c chX11_shown_8_06 (j := 12) rfl rfl)
theorem dX11_shown_141 : decode cX11_shown 141 = .ok (.getfield 125, 3) := dk180 (rd_c chX11_shown_8_06 (j := 13) rfl rfl) (rd_c chX11_shown_8_06 (j := 14) rfl rfl) (rd_c chX11_shown_8_06 (j := 15) rfl rfl) rfl
theorem chX11_shown_9_06 : ((cX11_shown.data.toList.drop 144).take 16).map UInt8.toNat = [27, 46, 172, 2, 172] := by decide +kernel
theorem dX11_shown_144 : decode cX11_shown 144 = .ok (.iload_n 1, 1) := dk27 (rd_c chX11_shown_9_06 (j := 0) rfl rfl)
theorem dX11_shown_145 : decode cX11_shown 145 = .ok (.iaload, 1) := dk46 (rd_c chX11_shown_9_06 (j := 1) rfl rfl)
theorem dX11_shown_146 : decode cX11_shown 146 = .ok (.ireturn, 1) := dk172 (rd_c chX11_shown_9_06 (j := 2) rfl rfl)
theorem dX11_shown_147 : decode cX11_shown 147 = .ok (.iconst (-1), 1) := dk2 (rd_c chX11_shown_9_06 (j := 3) rfl rfl)
theorem dX11_shown_148 : decode cX11_shown 148 = .ok (.ireturn, 1) := dk172 (rd_c chX11_shown_9_06 (j := 4) rfl rfl)
set_option maxRecDepth 20000 in
theorem ggX11_paper_X11_in : GoodIn wsX11_paper wsX11_in := goodIn_sub (show ∀ w ∈ wsX11_in, w ∈ wsX11_paper from (List.forall_mem_cons.mpr ⟨List.mem_cons_of_mem _ (List.mem_append_left _ (List.mem_of_getElem? (i := 9) rfl)), (fun _ h => absurd h List.not_mem_nil)⟩)) (by decide +kernel)
set_option maxRecDepth 20000 in
theorem gX11_paper_X11_in : GoodIn wsX11_paper (va_wsS RX11 170 yX11_in wsX11_in) := goodIn_app (goodIn_sub (List.forall_mem_cons.mpr ⟨List.mem_cons_of_mem _ (List.mem_append_left _ (List.mem_of_getElem? (i := 6) rfl)), (List.forall_mem_cons.mpr ⟨List.mem_cons_of_mem _ (List.mem_append_left _ (List.mem_of_getElem? (i := 7) rfl)), (List.forall_mem_cons.mpr ⟨List.mem_cons_of_mem _ (List.mem_append_left _ (List.mem_of_getElem? (i := 8) rfl)), (fun _ h => absurd h List.not_mem_nil)⟩)⟩)⟩) (by decide +kernel)) ggX11_paper_X11_in
theorem chX11_paper_0_06 : ((cX11_paper.data.toList.drop 0).take 16).map UInt8.toNat = [27, 3, 42, 180, 0, 179, 4, 100, 184, 0, 170, 154, 0, 5, 2, 172] := by decide +kernel
theorem dX11_paper_0 : decode cX11_paper 0 = .ok (.iload_n 1, 1) := dk27 (rd_c chX11_paper_0_06 (j := 0) rfl rfl)
theorem dX11_paper_1 : decode cX11_paper 1 = .ok (.iconst 0, 1) := dk3 (rd_c chX11_paper_0_06 (j := 1) rfl rfl)
theorem dX11_paper_2 : decode cX11_paper 2 = .ok (.aload_n 0, 1) := dk42 (rd_c chX11_paper_0_06 (j := 2) rfl rfl)
theorem dX11_paper_3 : decode cX11_paper 3 = .ok (.getfield 179, 3) := dk180 (rd_c chX11_paper_0_06 (j := 3) rfl rfl) (rd_c chX11_paper_0_06 (j := 4) rfl rfl) (rd_c chX11_paper_0_06 (j := 5) rfl rfl) rfl
theorem dX11_paper_6 : decode cX11_paper 6 = .ok (.iconst 1, 1) := dk4 (rd_c chX11_paper_0_06 (j := 6) rfl rfl)
theorem dX11_paper_7 : decode cX11_paper 7 = .ok (.isub, 1) := dk100 (rd_c chX11_paper_0_06 (j := 7) rfl rfl)
theorem dX11_paper_8 : decode cX11_paper 8 = .ok (.invokestatic 170, 3) := dk184 (rd_c chX11_paper_0_06 (j := 8) rfl rfl) (rd_c chX11_paper_0_06 (j := 9) rfl rfl) (rd_c chX11_paper_0_06 (j := 10) rfl rfl) rfl
theorem dX11_paper_11 : decode cX11_paper 11 = .ok (.ifCond .ne 5, 3) := dk154 (rd_c chX11_paper_0_06 (j := 11) rfl rfl) (rd_c chX11_paper_0_06 (j := 12) rfl rfl) (rd_c chX11_paper_0_06 (j := 13) rfl rfl) rfl
theorem dX11_paper_14 : decode cX11_paper 14 = .ok (.iconst (-1), 1) := dk2 (rd_c chX11_paper_0_06 (j := 14) rfl rfl)
theorem dX11_paper_15 : decode cX11_paper 15 = .ok (.ireturn, 1) := dk172 (rd_c chX11_paper_0_06 (j := 15) rfl rfl)
theorem chX11_paper_1_06 : ((cX11_paper.data.toList.drop 16).take 16).map UInt8.toNat = [28, 170, 0, 0, 0, 0, 0, 70, 0, 0, 0, 0, 0, 0, 0, 4] := by decide +kernel
theorem dX11_paper_16 : decode cX11_paper 16 = .ok (.iload_n 2, 1) := dk28 (rd_c chX11_paper_1_06 (j := 0) rfl rfl)
theorem dX11_paper_17 : decode cX11_paper 17 = .ok (.tableswitch 70 0 4 #[35, 42, 49, 56, 63], 35) := by decide +kernel
theorem chX11_paper_3_06 : ((cX11_paper.data.toList.drop 48).take 16).map UInt8.toNat = [0, 0, 0, 63, 42, 180, 0, 27, 27, 46, 172, 42, 180, 0, 30, 27] := by decide +kernel
theorem dX11_paper_52 : decode cX11_paper 52 = .ok (.aload_n 0, 1) := dk42 (rd_c chX11_paper_3_06 (j := 4) rfl rfl)
theorem dX11_paper_53 : decode cX11_paper 53 = .ok (.getfield 27, 3) := dk180 (rd_c chX11_paper_3_06 (j := 5) rfl rfl) (rd_c chX11_paper_3_06 (j := 6) rfl rfl) (rd_c chX11_paper_3_06 (j := 7) rfl rfl) rfl
theorem dX11_paper_56 : decode cX11_paper 56 = .ok (.iload_n 1, 1) := dk27 (rd_c chX11_paper_3_06 (j := 8) rfl rfl)
theorem dX11_paper_57 : decode cX11_paper 57 = .ok (.iaload, 1) := dk46 (rd_c chX11_paper_3_06 (j := 9) rfl rfl)
theorem dX11_paper_58 : decode cX11_paper 58 = .ok (.ireturn, 1) := dk172 (rd_c chX11_paper_3_06 (j := 10) rfl rfl)
theorem dX11_paper_59 : decode cX11_paper 59 = .ok (.aload_n 0, 1) := dk42 (rd_c chX11_paper_3_06 (j := 11) rfl rfl)
theorem dX11_paper_60 : decode cX11_paper 60 = .ok (.getfield 30, 3) := dk180 (rd_c chX11_paper_3_06 (j := 12) rfl rfl) (rd_c chX11_paper_3_06 (j := 13) rfl rfl) (rd_c chX11_paper_3_06 (j := 14) rfl rfl) rfl
theorem dX11_paper_63 : decode cX11_paper 63 = .ok (.iload_n 1, 1) := dk27 (rd_c chX11_paper_3_06 (j := 15) rfl rfl)
theorem chX11_paper_4_06 : ((cX11_paper.data.toList.drop 64).take 16).map UInt8.toNat = [46, 172, 42, 180, 0, 36, 27, 46, 172, 42, 180, 0, 42, 27, 46, 172] := by decide +kernel
theorem dX11_paper_64 : decode cX11_paper 64 = .ok (.iaload, 1) := dk46 (rd_c chX11_paper_4_06 (j := 0) rfl rfl)
theorem dX11_paper_65 : decode cX11_paper 65 = .ok (.ireturn, 1) := dk172 (rd_c chX11_paper_4_06 (j := 1) rfl rfl)
theorem dX11_paper_66 : decode cX11_paper 66 = .ok (.aload_n 0, 1) := dk42 (rd_c chX11_paper_4_06 (j := 2) rfl rfl)
theorem dX11_paper_67 : decode cX11_paper 67 = .ok (.getfield 36, 3) := dk180 (rd_c chX11_paper_4_06 (j := 3) rfl rfl) (rd_c chX11_paper_4_06 (j := 4) rfl rfl) (rd_c chX11_paper_4_06 (j := 5) rfl rfl) rfl
theorem dX11_paper_70 : decode cX11_paper 70 = .ok (.iload_n 1, 1) := dk27 (rd_c chX11_paper_4_06 (j := 6) rfl rfl)
theorem dX11_paper_71 : decode cX11_paper 71 = .ok (.iaload, 1) := dk46 (rd_c chX11_paper_4_06 (j := 7) rfl rfl)
theorem dX11_paper_72 : decode cX11_paper 72 = .ok (.ireturn, 1) := dk172 (rd_c chX11_paper_4_06 (j := 8) rfl rfl)
theorem dX11_paper_73 : decode cX11_paper 73 = .ok (.aload_n 0, 1) := dk42 (rd_c chX11_paper_4_06 (j := 9) rfl rfl)
theorem dX11_paper_74 : decode cX11_paper 74 = .ok (.getfield 42, 3) := dk180 (rd_c chX11_paper_4_06 (j := 10) rfl rfl) (rd_c chX11_paper_4_06 (j := 11) rfl rfl) (rd_c chX11_paper_4_06 (j := 12) rfl rfl) rfl
theorem dX11_paper_77 : decode cX11_paper 77 = .ok (.iload_n 1, 1) := dk27 (rd_c chX11_paper_4_06 (j := 13) rfl rfl)
theorem dX11_paper_78 : decode cX11_paper 78 = .ok (.iaload, 1) := dk46 (rd_c chX11_paper_4_06 (j := 14) rfl rfl)
theorem dX11_paper_79 : decode cX11_paper 79 = .ok (.ireturn, 1) := dk172 (rd_c chX11_paper_4_06 (j := 15) rfl rfl)
theorem chX11_paper_5_06 : ((cX11_paper.data.toList.drop 80).take 16).map UInt8.toNat = [42, 180, 0, 45, 27, 46, 172, 2, 172] := by decide +kernel
theorem dX11_paper_80 : decode cX11_paper 80 = .ok (.aload_n 0, 1) := dk42 (rd_c chX11_paper_5_06 (j := 0) rfl rfl)
theorem dX11_paper_81 : decode cX11_paper 81 = .ok (.getfield 45, 3) := dk180 (rd_c chX11_paper_5_06 (j := 1) rfl rfl) (rd_c chX11_paper_5_06 (j := 2) rfl rfl) (rd_c chX11_paper_5_06 (j := 3) rfl rfl) rfl
theorem dX11_paper_84 : decode cX11_paper 84 = .ok (.iload_n 1, 1) := dk27 (rd_c chX11_paper_5_06 (j := 4) rfl rfl)
theorem dX11_paper_85 : decode cX11_paper 85 = .ok (.iaload, 1) := dk46 (rd_c chX11_paper_5_06 (j := 5) rfl rfl)
theorem dX11_paper_86 : decode cX11_paper 86 = .ok (.ireturn, 1) := dk172 (rd_c chX11_paper_5_06 (j := 6) rfl rfl)
theorem dX11_paper_87 : decode cX11_paper 87 = .ok (.iconst (-1), 1) := dk2 (rd_c chX11_paper_5_06 (j := 7) rfl rfl)
theorem dX11_paper_88 : decode cX11_paper 88 = .ok (.ireturn, 1) := dk172 (rd_c chX11_paper_5_06 (j := 8) rfl rfl)
set_option maxRecDepth 20000 in
theorem ggX11_kindOf__X11_isStopped : GoodIn wsX11_kindOf_ wsX11_isStopped := goodIn_sub (show ∀ w ∈ wsX11_isStopped, w ∈ wsX11_kindOf_ from (List.forall_mem_cons.mpr ⟨List.mem_cons_of_mem _ (List.mem_append_left _ (List.mem_of_getElem? (i := 15) rfl)), (gw_a (List.forall_mem_cons.mpr ⟨List.mem_cons_of_mem _ (List.mem_append_left _ (List.mem_of_getElem? (i := 16) rfl)), (List.forall_mem_cons.mpr ⟨List.mem_cons_of_mem _ (List.mem_append_left _ (List.mem_of_getElem? (i := 17) rfl)), (List.forall_mem_cons.mpr ⟨List.mem_cons_of_mem _ (List.mem_append_left _ (List.mem_of_getElem? (i := 18) rfl)), (List.forall_mem_cons.mpr ⟨List.mem_cons_of_mem _ (List.mem_append_left _ (List.mem_of_getElem? (i := 19) rfl)), (fun _ h => absurd h List.not_mem_nil)⟩)⟩)⟩)⟩) (fun _ h => List.mem_cons_of_mem _ (List.mem_append_right _ (h))))⟩)) (by decide +kernel)
set_option maxRecDepth 20000 in
theorem gX11_kindOf__X11_isStopped : GoodIn wsX11_kindOf_ (wsV RX11 310 RX11 yX11_isStopped wsX11_isStopped) := goodIn_app (goodIn_sub (List.forall_mem_cons.mpr ⟨List.mem_cons_of_mem _ (List.mem_append_left _ (List.mem_of_getElem? (i := 11) rfl)), (List.forall_mem_cons.mpr ⟨List.mem_cons_of_mem _ (List.mem_append_left _ (List.mem_of_getElem? (i := 12) rfl)), (List.forall_mem_cons.mpr ⟨List.mem_cons_of_mem _ (List.mem_append_left _ (List.mem_of_getElem? (i := 13) rfl)), (List.forall_mem_cons.mpr ⟨List.mem_cons_of_mem _ (List.mem_append_left _ (List.mem_of_getElem? (i := 14) rfl)), (fun _ h => absurd h List.not_mem_nil)⟩)⟩)⟩)⟩) (by decide +kernel)) ggX11_kindOf__X11_isStopped
set_option maxRecDepth 20000 in
theorem ggX11_kindOf__X11_unlike : GoodIn wsX11_kindOf_ wsX11_unlike := goodIn_sub (show ∀ w ∈ wsX11_unlike, w ∈ wsX11_kindOf_ from (List.forall_mem_cons.mpr ⟨List.mem_cons_of_mem _ (List.mem_append_left _ (List.mem_of_getElem? (i := 22) rfl)), (fun _ h => absurd h List.not_mem_nil)⟩)) (by decide +kernel)
set_option maxRecDepth 20000 in
theorem gX11_kindOf__X11_unlike : GoodIn wsX11_kindOf_ (va_wsS RX11 306 yX11_unlike wsX11_unlike) := goodIn_app (goodIn_sub (List.forall_mem_cons.mpr ⟨List.mem_cons_of_mem _ (List.mem_append_left _ (List.mem_of_getElem? (i := 20) rfl)), (List.forall_mem_cons.mpr ⟨List.mem_cons_of_mem _ (List.mem_append_left _ (List.mem_of_getElem? (i := 21) rfl)), (List.forall_mem_cons.mpr ⟨List.mem_cons_of_mem _ (List.mem_append_left _ (List.mem_of_getElem? (i := 14) rfl)), (fun _ h => absurd h List.not_mem_nil)⟩)⟩)⟩) (by decide +kernel)) ggX11_kindOf__X11_unlike
theorem chX11_kindOf__0_06 : ((cX11_kindOf_.data.toList.drop 0).take 16).map UInt8.toNat = [42, 180, 0, 104, 27, 46, 62, 42, 29, 42, 180, 0, 107, 27, 46, 42] := by decide +kernel
theorem dX11_kindOf__0 : decode cX11_kindOf_ 0 = .ok (.aload_n 0, 1) := dk42 (rd_c chX11_kindOf__0_06 (j := 0) rfl rfl)
theorem dX11_kindOf__1 : decode cX11_kindOf_ 1 = .ok (.getfield 104, 3) := dk180 (rd_c chX11_kindOf__0_06 (j := 1) rfl rfl) (rd_c chX11_kindOf__0_06 (j := 2) rfl rfl) (rd_c chX11_kindOf__0_06 (j := 3) rfl rfl) rfl
theorem dX11_kindOf__4 : decode cX11_kindOf_ 4 = .ok (.iload_n 1, 1) := dk27 (rd_c chX11_kindOf__0_06 (j := 4) rfl rfl)
theorem dX11_kindOf__5 : decode cX11_kindOf_ 5 = .ok (.iaload, 1) := dk46 (rd_c chX11_kindOf__0_06 (j := 5) rfl rfl)
theorem dX11_kindOf__6 : decode cX11_kindOf_ 6 = .ok (.istore_n 3, 1) := dk62 (rd_c chX11_kindOf__0_06 (j := 6) rfl rfl)
theorem dX11_kindOf__7 : decode cX11_kindOf_ 7 = .ok (.aload_n 0, 1) := dk42 (rd_c chX11_kindOf__0_06 (j := 7) rfl rfl)
theorem dX11_kindOf__8 : decode cX11_kindOf_ 8 = .ok (.iload_n 3, 1) := dk29 (rd_c chX11_kindOf__0_06 (j := 8) rfl rfl)
theorem dX11_kindOf__9 : decode cX11_kindOf_ 9 = .ok (.aload_n 0, 1) := dk42 (rd_c chX11_kindOf__0_06 (j := 9) rfl rfl)
theorem dX11_kindOf__10 : decode cX11_kindOf_ 10 = .ok (.getfield 107, 3) := dk180 (rd_c chX11_kindOf__0_06 (j := 10) rfl rfl) (rd_c chX11_kindOf__0_06 (j := 11) rfl rfl) (rd_c chX11_kindOf__0_06 (j := 12) rfl rfl) rfl
theorem dX11_kindOf__13 : decode cX11_kindOf_ 13 = .ok (.iload_n 1, 1) := dk27 (rd_c chX11_kindOf__0_06 (j := 13) rfl rfl)
theorem dX11_kindOf__14 : decode cX11_kindOf_ 14 = .ok (.iaload, 1) := dk46 (rd_c chX11_kindOf__0_06 (j := 14) rfl rfl)
theorem dX11_kindOf__15 : decode cX11_kindOf_ 15 = .ok (.aload_n 0, 1) := dk42 (rd_c chX11_kindOf__0_06 (j := 15) rfl rfl)
theorem chX11_kindOf__1_06 : ((cX11_kindOf_.data.toList.drop 16).take 16).map UInt8.toNat = [180, 0, 101, 27, 46, 42, 180, 0, 122, 27, 46, 182, 1, 54, 153, 0] := by decide +kernel
theorem dX11_kindOf__16 : decode cX11_kindOf_ 16 = .ok (.getfield 101, 3) := dk180 (rd_c chX11_kindOf__1_06 (j := 0) rfl rfl) (rd_c chX11_kindOf__1_06 (j := 1) rfl rfl) (rd_c chX11_kindOf__1_06 (j := 2) rfl rfl) rfl
theorem dX11_kindOf__19 : decode cX11_kindOf_ 19 = .ok (.iload_n 1, 1) := dk27 (rd_c chX11_kindOf__1_06 (j := 3) rfl rfl)
theorem dX11_kindOf__20 : decode cX11_kindOf_ 20 = .ok (.iaload, 1) := dk46 (rd_c chX11_kindOf__1_06 (j := 4) rfl rfl)
theorem dX11_kindOf__21 : decode cX11_kindOf_ 21 = .ok (.aload_n 0, 1) := dk42 (rd_c chX11_kindOf__1_06 (j := 5) rfl rfl)
theorem dX11_kindOf__22 : decode cX11_kindOf_ 22 = .ok (.getfield 122, 3) := dk180 (rd_c chX11_kindOf__1_06 (j := 6) rfl rfl) (rd_c chX11_kindOf__1_06 (j := 7) rfl rfl) (rd_c chX11_kindOf__1_06 (j := 8) rfl rfl) rfl
theorem dX11_kindOf__25 : decode cX11_kindOf_ 25 = .ok (.iload_n 1, 1) := dk27 (rd_c chX11_kindOf__1_06 (j := 9) rfl rfl)
theorem dX11_kindOf__26 : decode cX11_kindOf_ 26 = .ok (.iaload, 1) := dk46 (rd_c chX11_kindOf__1_06 (j := 10) rfl rfl)
theorem dX11_kindOf__27 : decode cX11_kindOf_ 27 = .ok (.invokevirtual 310, 3) := dk182 (rd_c chX11_kindOf__1_06 (j := 11) rfl rfl) (rd_c chX11_kindOf__1_06 (j := 12) rfl rfl) (rd_c chX11_kindOf__1_06 (j := 13) rfl rfl) rfl
theorem chX11_kindOf__2_06 : ((cX11_kindOf_.data.toList.drop 32).take 16).map UInt8.toNat = [5, 4, 172, 42, 180, 0, 113, 27, 46, 42, 180, 0, 33, 29, 46, 184] := by decide +kernel
theorem dX11_kindOf__30 : decode cX11_kindOf_ 30 = .ok (.ifCond .eq 5, 3) := dk153 (rd_c chX11_kindOf__1_06 (j := 14) rfl rfl) (rd_c chX11_kindOf__1_06 (j := 15) rfl rfl) (rd_c chX11_kindOf__2_06 (j := 0) rfl rfl) rfl
theorem dX11_kindOf__33 : decode cX11_kindOf_ 33 = .ok (.iconst 1, 1) := dk4 (rd_c chX11_kindOf__2_06 (j := 1) rfl rfl)
theorem dX11_kindOf__34 : decode cX11_kindOf_ 34 = .ok (.ireturn, 1) := dk172 (rd_c chX11_kindOf__2_06 (j := 2) rfl rfl)
theorem dX11_kindOf__35 : decode cX11_kindOf_ 35 = .ok (.aload_n 0, 1) := dk42 (rd_c chX11_kindOf__2_06 (j := 3) rfl rfl)
theorem dX11_kindOf__36 : decode cX11_kindOf_ 36 = .ok (.getfield 113, 3) := dk180 (rd_c chX11_kindOf__2_06 (j := 4) rfl rfl) (rd_c chX11_kindOf__2_06 (j := 5) rfl rfl) (rd_c chX11_kindOf__2_06 (j := 6) rfl rfl) rfl
theorem dX11_kindOf__39 : decode cX11_kindOf_ 39 = .ok (.iload_n 1, 1) := dk27 (rd_c chX11_kindOf__2_06 (j := 7) rfl rfl)
theorem dX11_kindOf__40 : decode cX11_kindOf_ 40 = .ok (.iaload, 1) := dk46 (rd_c chX11_kindOf__2_06 (j := 8) rfl rfl)
theorem dX11_kindOf__41 : decode cX11_kindOf_ 41 = .ok (.aload_n 0, 1) := dk42 (rd_c chX11_kindOf__2_06 (j := 9) rfl rfl)
theorem dX11_kindOf__42 : decode cX11_kindOf_ 42 = .ok (.getfield 33, 3) := dk180 (rd_c chX11_kindOf__2_06 (j := 10) rfl rfl) (rd_c chX11_kindOf__2_06 (j := 11) rfl rfl) (rd_c chX11_kindOf__2_06 (j := 12) rfl rfl) rfl
theorem dX11_kindOf__45 : decode cX11_kindOf_ 45 = .ok (.iload_n 3, 1) := dk29 (rd_c chX11_kindOf__2_06 (j := 13) rfl rfl)
theorem dX11_kindOf__46 : decode cX11_kindOf_ 46 = .ok (.iaload, 1) := dk46 (rd_c chX11_kindOf__2_06 (j := 14) rfl rfl)
theorem chX11_kindOf__3_06 : ((cX11_kindOf_.data.toList.drop 48).take 16).map UInt8.toNat = [1, 50, 42, 180, 0, 92, 7, 46, 161, 0, 5, 5, 172, 3, 54, 4] := by decide +kernel
theorem dX11_kindOf__47 : decode cX11_kindOf_ 47 = .ok (.invokestatic 306, 3) := dk184 (rd_c chX11_kindOf__2_06 (j := 15) rfl rfl) (rd_c chX11_kindOf__3_06 (j := 0) rfl rfl) (rd_c chX11_kindOf__3_06 (j := 1) rfl rfl) rfl
theorem dX11_kindOf__50 : decode cX11_kindOf_ 50 = .ok (.aload_n 0, 1) := dk42 (rd_c chX11_kindOf__3_06 (j := 2) rfl rfl)
theorem dX11_kindOf__51 : decode cX11_kindOf_ 51 = .ok (.getfield 92, 3) := dk180 (rd_c chX11_kindOf__3_06 (j := 3) rfl rfl) (rd_c chX11_kindOf__3_06 (j := 4) rfl rfl) (rd_c chX11_kindOf__3_06 (j := 5) rfl rfl) rfl
theorem dX11_kindOf__54 : decode cX11_kindOf_ 54 = .ok (.iconst 4, 1) := dk7 (rd_c chX11_kindOf__3_06 (j := 6) rfl rfl)
theorem dX11_kindOf__55 : decode cX11_kindOf_ 55 = .ok (.iaload, 1) := dk46 (rd_c chX11_kindOf__3_06 (j := 7) rfl rfl)
theorem dX11_kindOf__56 : decode cX11_kindOf_ 56 = .ok (.if_icmp .lt 5, 3) := dk161 (rd_c chX11_kindOf__3_06 (j := 8) rfl rfl) (rd_c chX11_kindOf__3_06 (j := 9) rfl rfl) (rd_c chX11_kindOf__3_06 (j := 10) rfl rfl) rfl
theorem dX11_kindOf__59 : decode cX11_kindOf_ 59 = .ok (.iconst 2, 1) := dk5 (rd_c chX11_kindOf__3_06 (j := 11) rfl rfl)
theorem dX11_kindOf__60 : decode cX11_kindOf_ 60 = .ok (.ireturn, 1) := dk172 (rd_c chX11_kindOf__3_06 (j := 12) rfl rfl)
theorem dX11_kindOf__61 : decode cX11_kindOf_ 61 = .ok (.iconst 0, 1) := dk3 (rd_c chX11_kindOf__3_06 (j := 13) rfl rfl)
theorem dX11_kindOf__62 : decode cX11_kindOf_ 62 = .ok (.istore 4, 2) := dk54 (rd_c chX11_kindOf__3_06 (j := 14) rfl rfl) (rd_c chX11_kindOf__3_06 (j := 15) rfl rfl)
theorem chX11_kindOf__4_06 : ((cX11_kindOf_.data.toList.drop 64).take 16).map UInt8.toNat = [42, 180, 0, 110, 27, 46, 133, 55, 5, 3, 54, 7, 21, 7, 27, 162] := by decide +kernel
theorem dX11_kindOf__64 : decode cX11_kindOf_ 64 = .ok (.aload_n 0, 1) := dk42 (rd_c chX11_kindOf__4_06 (j := 0) rfl rfl)
theorem dX11_kindOf__65 : decode cX11_kindOf_ 65 = .ok (.getfield 110, 3) := dk180 (rd_c chX11_kindOf__4_06 (j := 1) rfl rfl) (rd_c chX11_kindOf__4_06 (j := 2) rfl rfl) (rd_c chX11_kindOf__4_06 (j := 3) rfl rfl) rfl
theorem dX11_kindOf__68 : decode cX11_kindOf_ 68 = .ok (.iload_n 1, 1) := dk27 (rd_c chX11_kindOf__4_06 (j := 4) rfl rfl)
theorem dX11_kindOf__69 : decode cX11_kindOf_ 69 = .ok (.iaload, 1) := dk46 (rd_c chX11_kindOf__4_06 (j := 5) rfl rfl)
theorem dX11_kindOf__70 : decode cX11_kindOf_ 70 = .ok (.i2l, 1) := dk133 (rd_c chX11_kindOf__4_06 (j := 6) rfl rfl)
theorem dX11_kindOf__71 : decode cX11_kindOf_ 71 = .ok (.lstore 5, 2) := dk55 (rd_c chX11_kindOf__4_06 (j := 7) rfl rfl) (rd_c chX11_kindOf__4_06 (j := 8) rfl rfl)
theorem dX11_kindOf__73 : decode cX11_kindOf_ 73 = .ok (.iconst 0, 1) := dk3 (rd_c chX11_kindOf__4_06 (j := 9) rfl rfl)
theorem dX11_kindOf__74 : decode cX11_kindOf_ 74 = .ok (.istore 7, 2) := dk54 (rd_c chX11_kindOf__4_06 (j := 10) rfl rfl) (rd_c chX11_kindOf__4_06 (j := 11) rfl rfl)
theorem dX11_kindOf__76 : decode cX11_kindOf_ 76 = .ok (.iload 7, 2) := dk21 (rd_c chX11_kindOf__4_06 (j := 12) rfl rfl) (rd_c chX11_kindOf__4_06 (j := 13) rfl rfl)
theorem dX11_kindOf__78 : decode cX11_kindOf_ 78 = .ok (.iload_n 1, 1) := dk27 (rd_c chX11_kindOf__4_06 (j := 14) rfl rfl)
theorem chX11_kindOf__5_06 : ((cX11_kindOf_.data.toList.drop 80).take 16).map UInt8.toNat = [0, 72, 42, 180, 0, 125, 21, 7, 46, 28, 163, 0, 55, 42, 180, 0] := by decide +kernel
theorem dX11_kindOf__79 : decode cX11_kindOf_ 79 = .ok (.if_icmp .ge 72, 3) := dk162 (rd_c chX11_kindOf__4_06 (j := 15) rfl rfl) (rd_c chX11_kindOf__5_06 (j := 0) rfl rfl) (rd_c chX11_kindOf__5_06 (j := 1) rfl rfl) rfl
theorem dX11_kindOf__82 : decode cX11_kindOf_ 82 = .ok (.aload_n 0, 1) := dk42 (rd_c chX11_kindOf__5_06 (j := 2) rfl rfl)
theorem dX11_kindOf__83 : decode cX11_kindOf_ 83 = .ok (.getfield 125, 3) := dk180 (rd_c chX11_kindOf__5_06 (j := 3) rfl rfl) (rd_c chX11_kindOf__5_06 (j := 4) rfl rfl) (rd_c chX11_kindOf__5_06 (j := 5) rfl rfl) rfl
theorem dX11_kindOf__86 : decode cX11_kindOf_ 86 = .ok (.iload 7, 2) := dk21 (rd_c chX11_kindOf__5_06 (j := 6) rfl rfl) (rd_c chX11_kindOf__5_06 (j := 7) rfl rfl)
theorem dX11_kindOf__88 : decode cX11_kindOf_ 88 = .ok (.iaload, 1) := dk46 (rd_c chX11_kindOf__5_06 (j := 8) rfl rfl)
theorem dX11_kindOf__89 : decode cX11_kindOf_ 89 = .ok (.iload_n 2, 1) := dk28 (rd_c chX11_kindOf__5_06 (j := 9) rfl rfl)
theorem dX11_kindOf__90 : decode cX11_kindOf_ 90 = .ok (.if_icmp .gt 55, 3) := dk163 (rd_c chX11_kindOf__5_06 (j := 10) rfl rfl) (rd_c chX11_kindOf__5_06 (j := 11) rfl rfl) (rd_c chX11_kindOf__5_06 (j := 12) rfl rfl) rfl
theorem dX11_kindOf__93 : decode cX11_kindOf_ 93 = .ok (.aload_n 0, 1) := dk42 (rd_c chX11_kindOf__5_06 (j := 13) rfl rfl)
theorem chX11_kindOf__6_06 : ((cX11_kindOf_.data.toList.drop 96).take 16).map UInt8.toNat = [104, 21, 7, 46, 29, 160, 0, 44, 21, 4, 154, 0, 19, 42, 180, 0] := by decide +kernel
theorem dX11_kindOf__94 : decode cX11_kindOf_ 94 = .ok (.getfield 104, 3) := dk180 (rd_c chX11_kindOf__5_06 (j := 14) rfl rfl) (rd_c chX11_kindOf__5_06 (j := 15) rfl rfl) (rd_c chX11_kindOf__6_06 (j := 0) rfl rfl) rfl
theorem dX11_kindOf__97 : decode cX11_kindOf_ 97 = .ok (.iload 7, 2) := dk21 (rd_c chX11_kindOf__6_06 (j := 1) rfl rfl) (rd_c chX11_kindOf__6_06 (j := 2) rfl rfl)
theorem dX11_kindOf__99 : decode cX11_kindOf_ 99 = .ok (.iaload, 1) := dk46 (rd_c chX11_kindOf__6_06 (j := 3) rfl rfl)
theorem dX11_kindOf__100 : decode cX11_kindOf_ 100 = .ok (.iload_n 3, 1) := dk29 (rd_c chX11_kindOf__6_06 (j := 4) rfl rfl)
theorem dX11_kindOf__101 : decode cX11_kindOf_ 101 = .ok (.if_icmp .ne 44, 3) := dk160 (rd_c chX11_kindOf__6_06 (j := 5) rfl rfl) (rd_c chX11_kindOf__6_06 (j := 6) rfl rfl) (rd_c chX11_kindOf__6_06 (j := 7) rfl rfl) rfl
theorem dX11_kindOf__104 : decode cX11_kindOf_ 104 = .ok (.iload 4, 2) := dk21 (rd_c chX11_kindOf__6_06 (j := 8) rfl rfl) (rd_c chX11_kindOf__6_06 (j := 9) rfl rfl)
theorem dX11_kindOf__106 : decode cX11_kindOf_ 106 = .ok (.ifCond .ne 19, 3) := dk154 (rd_c chX11_kindOf__6_06 (j := 10) rfl rfl) (rd_c chX11_kindOf__6_06 (j := 11) rfl rfl) (rd_c chX11_kindOf__6_06 (j := 12) rfl rfl) rfl
theorem dX11_kindOf__109 : decode cX11_kindOf_ 109 = .ok (.aload_n 0, 1) := dk42 (rd_c chX11_kindOf__6_06 (j := 13) rfl rfl)
theorem chX11_kindOf__7_06 : ((cX11_kindOf_.data.toList.drop 112).take 16).map UInt8.toNat = [107, 21, 7, 46, 42, 180, 0, 107, 27, 46, 160, 0, 7, 4, 167, 0] := by decide +kernel
theorem dX11_kindOf__110 : decode cX11_kindOf_ 110 = .ok (.getfield 107, 3) := dk180 (rd_c chX11_kindOf__6_06 (j := 14) rfl rfl) (rd_c chX11_kindOf__6_06 (j := 15) rfl rfl) (rd_c chX11_kindOf__7_06 (j := 0) rfl rfl) rfl
theorem dX11_kindOf__113 : decode cX11_kindOf_ 113 = .ok (.iload 7, 2) := dk21 (rd_c chX11_kindOf__7_06 (j := 1) rfl rfl) (rd_c chX11_kindOf__7_06 (j := 2) rfl rfl)
theorem dX11_kindOf__115 : decode cX11_kindOf_ 115 = .ok (.iaload, 1) := dk46 (rd_c chX11_kindOf__7_06 (j := 3) rfl rfl)
theorem dX11_kindOf__116 : decode cX11_kindOf_ 116 = .ok (.aload_n 0, 1) := dk42 (rd_c chX11_kindOf__7_06 (j := 4) rfl rfl)
theorem dX11_kindOf__117 : decode cX11_kindOf_ 117 = .ok (.getfield 107, 3) := dk180 (rd_c chX11_kindOf__7_06 (j := 5) rfl rfl) (rd_c chX11_kindOf__7_06 (j := 6) rfl rfl) (rd_c chX11_kindOf__7_06 (j := 7) rfl rfl) rfl
theorem dX11_kindOf__120 : decode cX11_kindOf_ 120 = .ok (.iload_n 1, 1) := dk27 (rd_c chX11_kindOf__7_06 (j := 8) rfl rfl)
theorem dX11_kindOf__121 : decode cX11_kindOf_ 121 = .ok (.iaload, 1) := dk46 (rd_c chX11_kindOf__7_06 (j := 9) rfl rfl)
theorem dX11_kindOf__122 : decode cX11_kindOf_ 122 = .ok (.if_icmp .ne 7, 3) := dk160 (rd_c chX11_kindOf__7_06 (j := 10) rfl rfl) (rd_c chX11_kindOf__7_06 (j := 11) rfl rfl) (rd_c chX11_kindOf__7_06 (j := 12) rfl rfl) rfl
theorem dX11_kindOf__125 : decode cX11_kindOf_ 125 = .ok (.iconst 1, 1) := dk4 (rd_c chX11_kindOf__7_06 (j := 13) rfl rfl)
theorem chX11_kindOf__8_06 : ((cX11_kindOf_.data.toList.drop 128).take 16).map UInt8.toNat = [4, 3, 54, 4, 22, 5, 42, 180, 0, 110, 21, 7, 46, 133, 97, 55] := by decide +kernel
theorem dX11_kindOf__126 : decode cX11_kindOf_ 126 = .ok (.goto 4, 3) := dk167 (rd_c chX11_kindOf__7_06 (j := 14) rfl rfl) (rd_c chX11_kindOf__7_06 (j := 15) rfl rfl) (rd_c chX11_kindOf__8_06 (j := 0) rfl rfl) rfl
theorem dX11_kindOf__129 : decode cX11_kindOf_ 129 = .ok (.iconst 0, 1) := dk3 (rd_c chX11_kindOf__8_06 (j := 1) rfl rfl)
theorem dX11_kindOf__130 : decode cX11_kindOf_ 130 = .ok (.istore 4, 2) := dk54 (rd_c chX11_kindOf__8_06 (j := 2) rfl rfl) (rd_c chX11_kindOf__8_06 (j := 3) rfl rfl)
theorem dX11_kindOf__132 : decode cX11_kindOf_ 132 = .ok (.lload 5, 2) := dk22 (rd_c chX11_kindOf__8_06 (j := 4) rfl rfl) (rd_c chX11_kindOf__8_06 (j := 5) rfl rfl)
theorem dX11_kindOf__134 : decode cX11_kindOf_ 134 = .ok (.aload_n 0, 1) := dk42 (rd_c chX11_kindOf__8_06 (j := 6) rfl rfl)
theorem dX11_kindOf__135 : decode cX11_kindOf_ 135 = .ok (.getfield 110, 3) := dk180 (rd_c chX11_kindOf__8_06 (j := 7) rfl rfl) (rd_c chX11_kindOf__8_06 (j := 8) rfl rfl) (rd_c chX11_kindOf__8_06 (j := 9) rfl rfl) rfl
theorem dX11_kindOf__138 : decode cX11_kindOf_ 138 = .ok (.iload 7, 2) := dk21 (rd_c chX11_kindOf__8_06 (j := 10) rfl rfl) (rd_c chX11_kindOf__8_06 (j := 11) rfl rfl)
theorem dX11_kindOf__140 : decode cX11_kindOf_ 140 = .ok (.iaload, 1) := dk46 (rd_c chX11_kindOf__8_06 (j := 12) rfl rfl)
theorem dX11_kindOf__141 : decode cX11_kindOf_ 141 = .ok (.i2l, 1) := dk133 (rd_c chX11_kindOf__8_06 (j := 13) rfl rfl)
theorem dX11_kindOf__142 : decode cX11_kindOf_ 142 = .ok (.ladd, 1) := dk97 (rd_c chX11_kindOf__8_06 (j := 14) rfl rfl)
theorem chX11_kindOf__9_06 : ((cX11_kindOf_.data.toList.drop 144).take 16).map UInt8.toNat = [5, 132, 7, 1, 167, 255, 184, 42, 180, 0, 27, 29, 46, 158, 0, 14] := by decide +kernel
theorem dX11_kindOf__143 : decode cX11_kindOf_ 143 = .ok (.lstore 5, 2) := dk55 (rd_c chX11_kindOf__8_06 (j := 15) rfl rfl) (rd_c chX11_kindOf__9_06 (j := 0) rfl rfl)
theorem dX11_kindOf__145 : decode cX11_kindOf_ 145 = .ok (.iinc 7 1, 3) := dk132 (rd_c chX11_kindOf__9_06 (j := 1) rfl rfl) (rd_c chX11_kindOf__9_06 (j := 2) rfl rfl) (rd_c chX11_kindOf__9_06 (j := 3) rfl rfl) rfl
theorem dX11_kindOf__148 : decode cX11_kindOf_ 148 = .ok (.goto (-72), 3) := dk167 (rd_c chX11_kindOf__9_06 (j := 4) rfl rfl) (rd_c chX11_kindOf__9_06 (j := 5) rfl rfl) (rd_c chX11_kindOf__9_06 (j := 6) rfl rfl) rfl
theorem dX11_kindOf__151 : decode cX11_kindOf_ 151 = .ok (.aload_n 0, 1) := dk42 (rd_c chX11_kindOf__9_06 (j := 7) rfl rfl)
theorem dX11_kindOf__152 : decode cX11_kindOf_ 152 = .ok (.getfield 27, 3) := dk180 (rd_c chX11_kindOf__9_06 (j := 8) rfl rfl) (rd_c chX11_kindOf__9_06 (j := 9) rfl rfl) (rd_c chX11_kindOf__9_06 (j := 10) rfl rfl) rfl
theorem dX11_kindOf__155 : decode cX11_kindOf_ 155 = .ok (.iload_n 3, 1) := dk29 (rd_c chX11_kindOf__9_06 (j := 11) rfl rfl)
theorem dX11_kindOf__156 : decode cX11_kindOf_ 156 = .ok (.iaload, 1) := dk46 (rd_c chX11_kindOf__9_06 (j := 12) rfl rfl)
theorem dX11_kindOf__157 : decode cX11_kindOf_ 157 = .ok (.ifCond .le 14, 3) := dk158 (rd_c chX11_kindOf__9_06 (j := 13) rfl rfl) (rd_c chX11_kindOf__9_06 (j := 14) rfl rfl) (rd_c chX11_kindOf__9_06 (j := 15) rfl rfl) rfl
theorem chX11_kindOf__10_06 : ((cX11_kindOf_.data.toList.drop 160).take 16).map UInt8.toNat = [21, 4, 153, 0, 7, 6, 167, 0, 4, 3, 172, 22, 5, 42, 180, 0] := by decide +kernel
theorem dX11_kindOf__160 : decode cX11_kindOf_ 160 = .ok (.iload 4, 2) := dk21 (rd_c chX11_kindOf__10_06 (j := 0) rfl rfl) (rd_c chX11_kindOf__10_06 (j := 1) rfl rfl)
theorem dX11_kindOf__162 : decode cX11_kindOf_ 162 = .ok (.ifCond .eq 7, 3) := dk153 (rd_c chX11_kindOf__10_06 (j := 2) rfl rfl) (rd_c chX11_kindOf__10_06 (j := 3) rfl rfl) (rd_c chX11_kindOf__10_06 (j := 4) rfl rfl) rfl
theorem dX11_kindOf__165 : decode cX11_kindOf_ 165 = .ok (.iconst 3, 1) := dk6 (rd_c chX11_kindOf__10_06 (j := 5) rfl rfl)
theorem dX11_kindOf__166 : decode cX11_kindOf_ 166 = .ok (.goto 4, 3) := dk167 (rd_c chX11_kindOf__10_06 (j := 6) rfl rfl) (rd_c chX11_kindOf__10_06 (j := 7) rfl rfl) (rd_c chX11_kindOf__10_06 (j := 8) rfl rfl) rfl
theorem dX11_kindOf__169 : decode cX11_kindOf_ 169 = .ok (.iconst 0, 1) := dk3 (rd_c chX11_kindOf__10_06 (j := 9) rfl rfl)
theorem dX11_kindOf__170 : decode cX11_kindOf_ 170 = .ok (.ireturn, 1) := dk172 (rd_c chX11_kindOf__10_06 (j := 10) rfl rfl)
theorem dX11_kindOf__171 : decode cX11_kindOf_ 171 = .ok (.lload 5, 2) := dk22 (rd_c chX11_kindOf__10_06 (j := 11) rfl rfl) (rd_c chX11_kindOf__10_06 (j := 12) rfl rfl)
theorem dX11_kindOf__173 : decode cX11_kindOf_ 173 = .ok (.aload_n 0, 1) := dk42 (rd_c chX11_kindOf__10_06 (j := 13) rfl rfl)
theorem chX11_kindOf__11_06 : ((cX11_kindOf_.data.toList.drop 176).take 16).map UInt8.toNat = [30, 29, 46, 133, 148, 158, 0, 7, 7, 167, 0, 4, 3, 172] := by decide +kernel
theorem dX11_kindOf__174 : decode cX11_kindOf_ 174 = .ok (.getfield 30, 3) := dk180 (rd_c chX11_kindOf__10_06 (j := 14) rfl rfl) (rd_c chX11_kindOf__10_06 (j := 15) rfl rfl) (rd_c chX11_kindOf__11_06 (j := 0) rfl rfl) rfl
theorem dX11_kindOf__177 : decode cX11_kindOf_ 177 = .ok (.iload_n 3, 1) := dk29 (rd_c chX11_kindOf__11_06 (j := 1) rfl rfl)
theorem dX11_kindOf__178 : decode cX11_kindOf_ 178 = .ok (.iaload, 1) := dk46 (rd_c chX11_kindOf__11_06 (j := 2) rfl rfl)
theorem dX11_kindOf__179 : decode cX11_kindOf_ 179 = .ok (.i2l, 1) := dk133 (rd_c chX11_kindOf__11_06 (j := 3) rfl rfl)
theorem dX11_kindOf__180 : decode cX11_kindOf_ 180 = .ok (.lcmp, 1) := dk148 (rd_c chX11_kindOf__11_06 (j := 4) rfl rfl)
theorem dX11_kindOf__181 : decode cX11_kindOf_ 181 = .ok (.ifCond .le 7, 3) := dk158 (rd_c chX11_kindOf__11_06 (j := 5) rfl rfl) (rd_c chX11_kindOf__11_06 (j := 6) rfl rfl) (rd_c chX11_kindOf__11_06 (j := 7) rfl rfl) rfl
theorem dX11_kindOf__184 : decode cX11_kindOf_ 184 = .ok (.iconst 4, 1) := dk7 (rd_c chX11_kindOf__11_06 (j := 8) rfl rfl)
theorem dX11_kindOf__185 : decode cX11_kindOf_ 185 = .ok (.goto 4, 3) := dk167 (rd_c chX11_kindOf__11_06 (j := 9) rfl rfl) (rd_c chX11_kindOf__11_06 (j := 10) rfl rfl) (rd_c chX11_kindOf__11_06 (j := 11) rfl rfl) rfl
theorem dX11_kindOf__188 : decode cX11_kindOf_ 188 = .ok (.iconst 0, 1) := dk3 (rd_c chX11_kindOf__11_06 (j := 12) rfl rfl)
theorem dX11_kindOf__189 : decode cX11_kindOf_ 189 = .ok (.ireturn, 1) := dk172 (rd_c chX11_kindOf__11_06 (j := 13) rfl rfl)
set_option maxRecDepth 20000 in
theorem ggX11_settle_X11_in : GoodIn wsX11_settle wsX11_in := goodIn_sub (show ∀ w ∈ wsX11_in, w ∈ wsX11_settle from (List.forall_mem_cons.mpr ⟨List.mem_cons_of_mem _ (List.mem_append_left _ (List.mem_append_left _ (List.mem_of_getElem? (i := 14) rfl))), (fun _ h => absurd h List.not_mem_nil)⟩)) (by decide +kernel)
set_option maxRecDepth 20000 in
theorem gX11_settle_X11_in : GoodIn wsX11_settle (va_wsS RX11 170 yX11_in wsX11_in) := goodIn_app (goodIn_sub (List.forall_mem_cons.mpr ⟨List.mem_cons_of_mem _ (List.mem_append_left _ (List.mem_append_left _ (List.mem_of_getElem? (i := 11) rfl))), (List.forall_mem_cons.mpr ⟨List.mem_cons_of_mem _ (List.mem_append_left _ (List.mem_append_left _ (List.mem_of_getElem? (i := 12) rfl))), (List.forall_mem_cons.mpr ⟨List.mem_cons_of_mem _ (List.mem_append_left _ (List.mem_append_left _ (List.mem_of_getElem? (i := 13) rfl))), (fun _ h => absurd h List.not_mem_nil)⟩)⟩)⟩) (by decide +kernel)) ggX11_settle_X11_in
set_option maxRecDepth 20000 in
theorem ggX11_settle_X11_kindOf_ : GoodIn wsX11_settle wsX11_kindOf_ := goodIn_sub (show ∀ w ∈ wsX11_kindOf_, w ∈ wsX11_settle from (List.forall_mem_cons.mpr ⟨List.mem_cons_of_mem _ (List.mem_append_left _ (List.mem_append_left _ (List.mem_of_getElem? (i := 18) rfl))), (gw_a (List.forall_mem_cons.mpr ⟨List.mem_cons_of_mem _ (List.mem_append_left _ (List.mem_append_left _ (List.mem_of_getElem? (i := 19) rfl))), (List.forall_mem_cons.mpr ⟨List.mem_cons_of_mem _ (List.mem_append_left _ (List.mem_append_left _ (List.mem_of_getElem? (i := 20) rfl))), (List.forall_mem_cons.mpr ⟨List.mem_cons_of_mem _ (List.mem_append_left _ (List.mem_append_left _ (List.mem_of_getElem? (i := 10) rfl))), (List.forall_mem_cons.mpr ⟨List.mem_cons_of_mem _ (List.mem_append_left _ (List.mem_append_left _ (List.mem_of_getElem? (i := 21) rfl))), (List.forall_mem_cons.mpr ⟨List.mem_cons_of_mem _ (List.mem_append_left _ (List.mem_append_left _ (List.mem_of_getElem? (i := 22) rfl))), (List.forall_mem_cons.mpr ⟨List.mem_cons_of_mem _ (List.mem_append_left _ (List.mem_append_left _ (List.mem_of_getElem? (i := 23) rfl))), (List.forall_mem_cons.mpr ⟨List.mem_cons_of_mem _ (List.mem_append_left _ (List.mem_append_left _ (List.mem_of_getElem? (i := 6) rfl))), (List.forall_mem_cons.mpr ⟨List.mem_cons_of_mem _ (List.mem_append_left _ (List.mem_append_right _ (List.mem_append_left _ (List.mem_of_getElem? (i := 0) rfl)))), (List.forall_mem_cons.mpr ⟨List.mem_cons_of_mem _ (List.mem_append_left _ (List.mem_append_left _ (List.mem_of_getElem? (i := 5) rfl))), (List.forall_mem_cons.mpr ⟨List.mem_cons_of_mem _ (List.mem_append_left _ (List.mem_append_right _ (List.mem_append_left _ (List.mem_of_getElem? (i := 1) rfl)))), (List.forall_mem_cons.mpr ⟨List.mem_cons_of_mem _ (List.mem_append_left _ (List.mem_append_right _ (List.mem_append_left _ (List.mem_of_getElem? (i := 2) rfl)))), (List.forall_mem_cons.mpr ⟨List.mem_cons_of_mem _ (List.mem_append_left _ (List.mem_append_right _ (List.mem_append_left _ (List.mem_of_getElem? (i := 3) rfl)))), (List.forall_mem_cons.mpr ⟨List.mem_cons_of_mem _ (List.mem_append_left _ (List.mem_append_right _ (List.mem_append_left _ (List.mem_of_getElem? (i := 4) rfl)))), (List.forall_mem_cons.mpr ⟨List.mem_cons_of_mem _ (List.mem_append_left _ (List.mem_append_right _ (List.mem_append_left _ (List.mem_of_getElem? (i := 5) rfl)))), (List.forall_mem_cons.mpr ⟨List.mem_cons_of_mem _ (List.mem_append_left _ (List.mem_append_left _ (List.mem_of_getElem? (i := 13) rfl))), (List.forall_mem_cons.mpr ⟨List.mem_cons_of_mem _ (List.mem_append_left _ (List.mem_append_right _ (List.mem_append_left _ (List.mem_of_getElem? (i := 6) rfl)))), (List.forall_mem_cons.mpr ⟨List.mem_cons_of_mem _ (List.mem_append_left _ (List.mem_append_right _ (List.mem_append_left _ (List.mem_of_getElem? (i := 7) rfl)))), (List.forall_mem_cons.mpr ⟨List.mem_cons_of_mem _ (List.mem_append_left _ (List.mem_append_right _ (List.mem_append_left _ (List.mem_of_getElem? (i := 8) rfl)))), (List.forall_mem_cons.mpr ⟨List.mem_cons_of_mem _ (List.mem_append_left _ (List.mem_append_right _ (List.mem_append_left _ (List.mem_of_getElem? (i := 9) rfl)))), (List.forall_mem_cons.mpr ⟨List.mem_cons_of_mem _ (List.mem_append_left _ (List.mem_append_right _ (List.mem_append_left _ (List.mem_of_getElem? (i := 10) rfl)))), (List.forall_mem_cons.mpr ⟨List.mem_cons_of_mem _ (List.mem_append_left _ (List.mem_append_right _ (List.mem_append_left _ (List.mem_of_getElem? (i := 11) rfl)))), (List.forall_mem_cons.mpr ⟨List.mem_cons_of_mem _ (List.mem_append_left _ (List.mem_append_right _ (List.mem_append_left _ (List.mem_of_getElem? (i := 12) rfl)))), (List.forall_mem_cons.mpr ⟨List.mem_cons_of_mem _ (List.mem_append_left _ (List.mem_append_right _ (List.mem_append_left _ (List.mem_of_getElem? (i := 13) rfl)))), (fun _ h => absurd h List.not_mem_nil)⟩)⟩)⟩)⟩)⟩)⟩)⟩)⟩)⟩)⟩)⟩)⟩)⟩)⟩)⟩)⟩)⟩)⟩)⟩)⟩)⟩)⟩)⟩) (fun _ h => List.mem_cons_of_mem _ (List.mem_append_right _ (h))))⟩)) (by decide +kernel)
set_option maxRecDepth 20000 in
theorem gX11_settle_X11_kindOf_ : GoodIn wsX11_settle (wsV RX11 329 RX11 yX11_kindOf_ wsX11_kindOf_) := goodIn_app (goodIn_sub (List.forall_mem_cons.mpr ⟨List.mem_cons_of_mem _ (List.mem_append_left _ (List.mem_append_left _ (List.mem_of_getElem? (i := 15) rfl))), (List.forall_mem_cons.mpr ⟨List.mem_cons_of_mem _ (List.mem_append_left _ (List.mem_append_left _ (List.mem_of_getElem? (i := 16) rfl))), (List.forall_mem_cons.mpr ⟨List.mem_cons_of_mem _ (List.mem_append_left _ (List.mem_append_left _ (List.mem_of_getElem? (i := 17) rfl))), (List.forall_mem_cons.mpr ⟨List.mem_cons_of_mem _ (List.mem_append_left _ (List.mem_append_left _ (List.mem_of_getElem? (i := 13) rfl))), (fun _ h => absurd h List.not_mem_nil)⟩)⟩)⟩)⟩) (by decide +kernel)) ggX11_settle_X11_kindOf_
set_option maxRecDepth 20000 in
theorem ggX11_settle_X11_nets : GoodIn wsX11_settle wsX11_nets := goodIn_sub (show ∀ w ∈ wsX11_nets, w ∈ wsX11_settle from (List.forall_mem_cons.mpr ⟨List.mem_cons_of_mem _ (List.mem_append_left _ (List.mem_append_right _ (List.mem_append_left _ (List.mem_of_getElem? (i := 17) rfl)))), (gw_a (List.forall_mem_cons.mpr ⟨List.mem_cons_of_mem _ (List.mem_append_left _ (List.mem_append_right _ (List.mem_append_left _ (List.mem_of_getElem? (i := 18) rfl)))), (List.forall_mem_cons.mpr ⟨List.mem_cons_of_mem _ (List.mem_append_left _ (List.mem_append_right _ (List.mem_append_left _ (List.mem_of_getElem? (i := 19) rfl)))), (List.forall_mem_cons.mpr ⟨List.mem_cons_of_mem _ (List.mem_append_left _ (List.mem_append_left _ (List.mem_of_getElem? (i := 1) rfl))), (List.forall_mem_cons.mpr ⟨List.mem_cons_of_mem _ (List.mem_append_left _ (List.mem_append_right _ (List.mem_append_left _ (List.mem_of_getElem? (i := 20) rfl)))), (List.forall_mem_cons.mpr ⟨List.mem_cons_of_mem _ (List.mem_append_left _ (List.mem_append_right _ (List.mem_append_left _ (List.mem_of_getElem? (i := 21) rfl)))), (List.forall_mem_cons.mpr ⟨List.mem_cons_of_mem _ (List.mem_append_left _ (List.mem_append_right _ (List.mem_append_left _ (List.mem_of_getElem? (i := 22) rfl)))), (List.forall_mem_cons.mpr ⟨List.mem_cons_of_mem _ (List.mem_append_left _ (List.mem_append_right _ (List.mem_append_left _ (List.mem_of_getElem? (i := 23) rfl)))), (List.forall_mem_cons.mpr ⟨List.mem_cons_of_mem _ (List.mem_append_left _ (List.mem_append_left _ (List.mem_of_getElem? (i := 13) rfl))), (List.forall_mem_cons.mpr ⟨List.mem_cons_of_mem _ (List.mem_append_left _ (List.mem_append_right _ (List.mem_append_right _ (List.mem_of_getElem? (i := 0) rfl)))), (List.forall_mem_cons.mpr ⟨List.mem_cons_of_mem _ (List.mem_append_left _ (List.mem_append_right _ (List.mem_append_right _ (List.mem_of_getElem? (i := 1) rfl)))), (List.forall_mem_cons.mpr ⟨List.mem_cons_of_mem _ (List.mem_append_left _ (List.mem_append_right _ (List.mem_append_right _ (List.mem_of_getElem? (i := 2) rfl)))), (List.forall_mem_cons.mpr ⟨List.mem_cons_of_mem _ (List.mem_append_left _ (List.mem_append_right _ (List.mem_append_right _ (List.mem_of_getElem? (i := 3) rfl)))), (List.forall_mem_cons.mpr ⟨List.mem_cons_of_mem _ (List.mem_append_left _ (List.mem_append_right _ (List.mem_append_right _ (List.mem_of_getElem? (i := 4) rfl)))), (fun _ h => absurd h List.not_mem_nil)⟩)⟩)⟩)⟩)⟩)⟩)⟩)⟩)⟩)⟩)⟩)⟩)⟩) (fun _ h => List.mem_cons_of_mem _ (List.mem_append_right _ (h))))⟩)) (by decide +kernel)
set_option maxRecDepth 20000 in
theorem gX11_settle_X11_nets : GoodIn wsX11_settle (wsV RX11 333 RX11 yX11_nets wsX11_nets) := goodIn_app (goodIn_sub (List.forall_mem_cons.mpr ⟨List.mem_cons_of_mem _ (List.mem_append_left _ (List.mem_append_right _ (List.mem_append_left _ (List.mem_of_getElem? (i := 14) rfl)))), (List.forall_mem_cons.mpr ⟨List.mem_cons_of_mem _ (List.mem_append_left _ (List.mem_append_right _ (List.mem_append_left _ (List.mem_of_getElem? (i := 15) rfl)))), (List.forall_mem_cons.mpr ⟨List.mem_cons_of_mem _ (List.mem_append_left _ (List.mem_append_right _ (List.mem_append_left _ (List.mem_of_getElem? (i := 16) rfl)))), (List.forall_mem_cons.mpr ⟨List.mem_cons_of_mem _ (List.mem_append_left _ (List.mem_append_left _ (List.mem_of_getElem? (i := 13) rfl))), (fun _ h => absurd h List.not_mem_nil)⟩)⟩)⟩)⟩) (by decide +kernel)) ggX11_settle_X11_nets
theorem chX11_settle_0_06 : ((cX11_settle.data.toList.drop 0).take 16).map UInt8.toNat = [27, 3, 17, 11, 184, 184, 0, 170, 154, 0, 5, 2, 172, 42, 4, 181] := by decide +kernel
theorem dX11_settle_0 : decode cX11_settle 0 = .ok (.iload_n 1, 1) := dk27 (rd_c chX11_settle_0_06 (j := 0) rfl rfl)
theorem dX11_settle_1 : decode cX11_settle 1 = .ok (.iconst 0, 1) := dk3 (rd_c chX11_settle_0_06 (j := 1) rfl rfl)
theorem dX11_settle_2 : decode cX11_settle 2 = .ok (.sipush 3000, 3) := dk17 (rd_c chX11_settle_0_06 (j := 2) rfl rfl) (rd_c chX11_settle_0_06 (j := 3) rfl rfl) (rd_c chX11_settle_0_06 (j := 4) rfl rfl) rfl
theorem dX11_settle_5 : decode cX11_settle 5 = .ok (.invokestatic 170, 3) := dk184 (rd_c chX11_settle_0_06 (j := 5) rfl rfl) (rd_c chX11_settle_0_06 (j := 6) rfl rfl) (rd_c chX11_settle_0_06 (j := 7) rfl rfl) rfl
theorem dX11_settle_8 : decode cX11_settle 8 = .ok (.ifCond .ne 5, 3) := dk154 (rd_c chX11_settle_0_06 (j := 8) rfl rfl) (rd_c chX11_settle_0_06 (j := 9) rfl rfl) (rd_c chX11_settle_0_06 (j := 10) rfl rfl) rfl
theorem dX11_settle_11 : decode cX11_settle 11 = .ok (.iconst (-1), 1) := dk2 (rd_c chX11_settle_0_06 (j := 11) rfl rfl)
theorem dX11_settle_12 : decode cX11_settle 12 = .ok (.ireturn, 1) := dk172 (rd_c chX11_settle_0_06 (j := 12) rfl rfl)
theorem dX11_settle_13 : decode cX11_settle 13 = .ok (.aload_n 0, 1) := dk42 (rd_c chX11_settle_0_06 (j := 13) rfl rfl)
theorem dX11_settle_14 : decode cX11_settle 14 = .ok (.iconst 1, 1) := dk4 (rd_c chX11_settle_0_06 (j := 14) rfl rfl)
theorem chX11_settle_1_06 : ((cX11_settle.data.toList.drop 16).take 16).map UInt8.toNat = [1, 69, 3, 61, 3, 62, 29, 16, 12, 162, 0, 23, 42, 180, 0, 141] := by decide +kernel
theorem dX11_settle_15 : decode cX11_settle 15 = .ok (.putfield 325, 3) := dk181 (rd_c chX11_settle_0_06 (j := 15) rfl rfl) (rd_c chX11_settle_1_06 (j := 0) rfl rfl) (rd_c chX11_settle_1_06 (j := 1) rfl rfl) rfl
theorem dX11_settle_18 : decode cX11_settle 18 = .ok (.iconst 0, 1) := dk3 (rd_c chX11_settle_1_06 (j := 2) rfl rfl)
theorem dX11_settle_19 : decode cX11_settle 19 = .ok (.istore_n 2, 1) := dk61 (rd_c chX11_settle_1_06 (j := 3) rfl rfl)
theorem dX11_settle_20 : decode cX11_settle 20 = .ok (.iconst 0, 1) := dk3 (rd_c chX11_settle_1_06 (j := 4) rfl rfl)
theorem dX11_settle_21 : decode cX11_settle 21 = .ok (.istore_n 3, 1) := dk62 (rd_c chX11_settle_1_06 (j := 5) rfl rfl)
theorem dX11_settle_22 : decode cX11_settle 22 = .ok (.iload_n 3, 1) := dk29 (rd_c chX11_settle_1_06 (j := 6) rfl rfl)
theorem dX11_settle_23 : decode cX11_settle 23 = .ok (.bipush 12, 2) := dk16 (rd_c chX11_settle_1_06 (j := 7) rfl rfl) (rd_c chX11_settle_1_06 (j := 8) rfl rfl) rfl
theorem dX11_settle_25 : decode cX11_settle 25 = .ok (.if_icmp .ge 23, 3) := dk162 (rd_c chX11_settle_1_06 (j := 9) rfl rfl) (rd_c chX11_settle_1_06 (j := 10) rfl rfl) (rd_c chX11_settle_1_06 (j := 11) rfl rfl) rfl
theorem dX11_settle_28 : decode cX11_settle 28 = .ok (.aload_n 0, 1) := dk42 (rd_c chX11_settle_1_06 (j := 12) rfl rfl)
theorem dX11_settle_29 : decode cX11_settle 29 = .ok (.getfield 141, 3) := dk180 (rd_c chX11_settle_1_06 (j := 13) rfl rfl) (rd_c chX11_settle_1_06 (j := 14) rfl rfl) (rd_c chX11_settle_1_06 (j := 15) rfl rfl) rfl
theorem chX11_settle_2_06 : ((cX11_settle.data.toList.drop 32).take 16).map UInt8.toNat = [29, 42, 180, 0, 132, 29, 46, 116, 133, 80, 132, 3, 1, 167, 255, 233] := by decide +kernel
theorem dX11_settle_32 : decode cX11_settle 32 = .ok (.iload_n 3, 1) := dk29 (rd_c chX11_settle_2_06 (j := 0) rfl rfl)
theorem dX11_settle_33 : decode cX11_settle 33 = .ok (.aload_n 0, 1) := dk42 (rd_c chX11_settle_2_06 (j := 1) rfl rfl)
theorem dX11_settle_34 : decode cX11_settle 34 = .ok (.getfield 132, 3) := dk180 (rd_c chX11_settle_2_06 (j := 2) rfl rfl) (rd_c chX11_settle_2_06 (j := 3) rfl rfl) (rd_c chX11_settle_2_06 (j := 4) rfl rfl) rfl
theorem dX11_settle_37 : decode cX11_settle 37 = .ok (.iload_n 3, 1) := dk29 (rd_c chX11_settle_2_06 (j := 5) rfl rfl)
theorem dX11_settle_38 : decode cX11_settle 38 = .ok (.iaload, 1) := dk46 (rd_c chX11_settle_2_06 (j := 6) rfl rfl)
theorem dX11_settle_39 : decode cX11_settle 39 = .ok (.ineg, 1) := dk116 (rd_c chX11_settle_2_06 (j := 7) rfl rfl)
theorem dX11_settle_40 : decode cX11_settle 40 = .ok (.i2l, 1) := dk133 (rd_c chX11_settle_2_06 (j := 8) rfl rfl)
theorem dX11_settle_41 : decode cX11_settle 41 = .ok (.lastore, 1) := dk80 (rd_c chX11_settle_2_06 (j := 9) rfl rfl)
theorem dX11_settle_42 : decode cX11_settle 42 = .ok (.iinc 3 1, 3) := dk132 (rd_c chX11_settle_2_06 (j := 10) rfl rfl) (rd_c chX11_settle_2_06 (j := 11) rfl rfl) (rd_c chX11_settle_2_06 (j := 12) rfl rfl) rfl
theorem dX11_settle_45 : decode cX11_settle 45 = .ok (.goto (-23), 3) := dk167 (rd_c chX11_settle_2_06 (j := 13) rfl rfl) (rd_c chX11_settle_2_06 (j := 14) rfl rfl) (rd_c chX11_settle_2_06 (j := 15) rfl rfl) rfl
theorem chX11_settle_3_06 : ((cX11_settle.data.toList.drop 48).take 16).map UInt8.toNat = [3, 62, 29, 17, 0, 200, 162, 0, 16, 42, 180, 0, 135, 29, 2, 79] := by decide +kernel
theorem dX11_settle_48 : decode cX11_settle 48 = .ok (.iconst 0, 1) := dk3 (rd_c chX11_settle_3_06 (j := 0) rfl rfl)
theorem dX11_settle_49 : decode cX11_settle 49 = .ok (.istore_n 3, 1) := dk62 (rd_c chX11_settle_3_06 (j := 1) rfl rfl)
theorem dX11_settle_50 : decode cX11_settle 50 = .ok (.iload_n 3, 1) := dk29 (rd_c chX11_settle_3_06 (j := 2) rfl rfl)
theorem dX11_settle_51 : decode cX11_settle 51 = .ok (.sipush 200, 3) := dk17 (rd_c chX11_settle_3_06 (j := 3) rfl rfl) (rd_c chX11_settle_3_06 (j := 4) rfl rfl) (rd_c chX11_settle_3_06 (j := 5) rfl rfl) rfl
theorem dX11_settle_54 : decode cX11_settle 54 = .ok (.if_icmp .ge 16, 3) := dk162 (rd_c chX11_settle_3_06 (j := 6) rfl rfl) (rd_c chX11_settle_3_06 (j := 7) rfl rfl) (rd_c chX11_settle_3_06 (j := 8) rfl rfl) rfl
theorem dX11_settle_57 : decode cX11_settle 57 = .ok (.aload_n 0, 1) := dk42 (rd_c chX11_settle_3_06 (j := 9) rfl rfl)
theorem dX11_settle_58 : decode cX11_settle 58 = .ok (.getfield 135, 3) := dk180 (rd_c chX11_settle_3_06 (j := 10) rfl rfl) (rd_c chX11_settle_3_06 (j := 11) rfl rfl) (rd_c chX11_settle_3_06 (j := 12) rfl rfl) rfl
theorem dX11_settle_61 : decode cX11_settle 61 = .ok (.iload_n 3, 1) := dk29 (rd_c chX11_settle_3_06 (j := 13) rfl rfl)
theorem dX11_settle_62 : decode cX11_settle 62 = .ok (.iconst (-1), 1) := dk2 (rd_c chX11_settle_3_06 (j := 14) rfl rfl)
theorem dX11_settle_63 : decode cX11_settle 63 = .ok (.iastore, 1) := dk79 (rd_c chX11_settle_3_06 (j := 15) rfl rfl)
theorem chX11_settle_4_06 : ((cX11_settle.data.toList.drop 64).take 16).map UInt8.toNat = [132, 3, 1, 167, 255, 239, 3, 62, 29, 42, 180, 1, 58, 162, 0, 125] := by decide +kernel
theorem dX11_settle_64 : decode cX11_settle 64 = .ok (.iinc 3 1, 3) := dk132 (rd_c chX11_settle_4_06 (j := 0) rfl rfl) (rd_c chX11_settle_4_06 (j := 1) rfl rfl) (rd_c chX11_settle_4_06 (j := 2) rfl rfl) rfl
theorem dX11_settle_67 : decode cX11_settle 67 = .ok (.goto (-17), 3) := dk167 (rd_c chX11_settle_4_06 (j := 3) rfl rfl) (rd_c chX11_settle_4_06 (j := 4) rfl rfl) (rd_c chX11_settle_4_06 (j := 5) rfl rfl) rfl
theorem dX11_settle_70 : decode cX11_settle 70 = .ok (.iconst 0, 1) := dk3 (rd_c chX11_settle_4_06 (j := 6) rfl rfl)
theorem dX11_settle_71 : decode cX11_settle 71 = .ok (.istore_n 3, 1) := dk62 (rd_c chX11_settle_4_06 (j := 7) rfl rfl)
theorem dX11_settle_72 : decode cX11_settle 72 = .ok (.iload_n 3, 1) := dk29 (rd_c chX11_settle_4_06 (j := 8) rfl rfl)
theorem dX11_settle_73 : decode cX11_settle 73 = .ok (.aload_n 0, 1) := dk42 (rd_c chX11_settle_4_06 (j := 9) rfl rfl)
theorem dX11_settle_74 : decode cX11_settle 74 = .ok (.getfield 314, 3) := dk180 (rd_c chX11_settle_4_06 (j := 10) rfl rfl) (rd_c chX11_settle_4_06 (j := 11) rfl rfl) (rd_c chX11_settle_4_06 (j := 12) rfl rfl) rfl
theorem dX11_settle_77 : decode cX11_settle 77 = .ok (.if_icmp .ge 125, 3) := dk162 (rd_c chX11_settle_4_06 (j := 13) rfl rfl) (rd_c chX11_settle_4_06 (j := 14) rfl rfl) (rd_c chX11_settle_4_06 (j := 15) rfl rfl) rfl
theorem chX11_settle_5_06 : ((cX11_settle.data.toList.drop 80).take 16).map UInt8.toNat = [42, 180, 0, 125, 29, 46, 27, 164, 0, 6, 167, 0, 106, 42, 180, 0] := by decide +kernel
theorem dX11_settle_80 : decode cX11_settle 80 = .ok (.aload_n 0, 1) := dk42 (rd_c chX11_settle_5_06 (j := 0) rfl rfl)
theorem dX11_settle_81 : decode cX11_settle 81 = .ok (.getfield 125, 3) := dk180 (rd_c chX11_settle_5_06 (j := 1) rfl rfl) (rd_c chX11_settle_5_06 (j := 2) rfl rfl) (rd_c chX11_settle_5_06 (j := 3) rfl rfl) rfl
theorem dX11_settle_84 : decode cX11_settle 84 = .ok (.iload_n 3, 1) := dk29 (rd_c chX11_settle_5_06 (j := 4) rfl rfl)
theorem dX11_settle_85 : decode cX11_settle 85 = .ok (.iaload, 1) := dk46 (rd_c chX11_settle_5_06 (j := 5) rfl rfl)
theorem dX11_settle_86 : decode cX11_settle 86 = .ok (.iload_n 1, 1) := dk27 (rd_c chX11_settle_5_06 (j := 6) rfl rfl)
theorem dX11_settle_87 : decode cX11_settle 87 = .ok (.if_icmp .le 6, 3) := dk164 (rd_c chX11_settle_5_06 (j := 7) rfl rfl) (rd_c chX11_settle_5_06 (j := 8) rfl rfl) (rd_c chX11_settle_5_06 (j := 9) rfl rfl) rfl
theorem dX11_settle_90 : decode cX11_settle 90 = .ok (.goto 106, 3) := dk167 (rd_c chX11_settle_5_06 (j := 10) rfl rfl) (rd_c chX11_settle_5_06 (j := 11) rfl rfl) (rd_c chX11_settle_5_06 (j := 12) rfl rfl) rfl
theorem dX11_settle_93 : decode cX11_settle 93 = .ok (.aload_n 0, 1) := dk42 (rd_c chX11_settle_5_06 (j := 13) rfl rfl)
theorem chX11_settle_6_06 : ((cX11_settle.data.toList.drop 96).take 16).map UInt8.toNat = [135, 29, 42, 29, 27, 182, 1, 73, 79, 42, 180, 0, 135, 29, 46, 154] := by decide +kernel
theorem dX11_settle_94 : decode cX11_settle 94 = .ok (.getfield 135, 3) := dk180 (rd_c chX11_settle_5_06 (j := 14) rfl rfl) (rd_c chX11_settle_5_06 (j := 15) rfl rfl) (rd_c chX11_settle_6_06 (j := 0) rfl rfl) rfl
theorem dX11_settle_97 : decode cX11_settle 97 = .ok (.iload_n 3, 1) := dk29 (rd_c chX11_settle_6_06 (j := 1) rfl rfl)
theorem dX11_settle_98 : decode cX11_settle 98 = .ok (.aload_n 0, 1) := dk42 (rd_c chX11_settle_6_06 (j := 2) rfl rfl)
theorem dX11_settle_99 : decode cX11_settle 99 = .ok (.iload_n 3, 1) := dk29 (rd_c chX11_settle_6_06 (j := 3) rfl rfl)
theorem dX11_settle_100 : decode cX11_settle 100 = .ok (.iload_n 1, 1) := dk27 (rd_c chX11_settle_6_06 (j := 4) rfl rfl)
theorem dX11_settle_101 : decode cX11_settle 101 = .ok (.invokevirtual 329, 3) := dk182 (rd_c chX11_settle_6_06 (j := 5) rfl rfl) (rd_c chX11_settle_6_06 (j := 6) rfl rfl) (rd_c chX11_settle_6_06 (j := 7) rfl rfl) rfl
theorem dX11_settle_104 : decode cX11_settle 104 = .ok (.iastore, 1) := dk79 (rd_c chX11_settle_6_06 (j := 8) rfl rfl)
theorem dX11_settle_105 : decode cX11_settle 105 = .ok (.aload_n 0, 1) := dk42 (rd_c chX11_settle_6_06 (j := 9) rfl rfl)
theorem dX11_settle_106 : decode cX11_settle 106 = .ok (.getfield 135, 3) := dk180 (rd_c chX11_settle_6_06 (j := 10) rfl rfl) (rd_c chX11_settle_6_06 (j := 11) rfl rfl) (rd_c chX11_settle_6_06 (j := 12) rfl rfl) rfl
theorem dX11_settle_109 : decode cX11_settle 109 = .ok (.iload_n 3, 1) := dk29 (rd_c chX11_settle_6_06 (j := 13) rfl rfl)
theorem dX11_settle_110 : decode cX11_settle 110 = .ok (.iaload, 1) := dk46 (rd_c chX11_settle_6_06 (j := 14) rfl rfl)
theorem chX11_settle_7_06 : ((cX11_settle.data.toList.drop 112).take 16).map UInt8.toNat = [0, 7, 3, 167, 0, 16, 42, 180, 0, 92, 42, 180, 0, 135, 29, 46] := by decide +kernel
theorem dX11_settle_111 : decode cX11_settle 111 = .ok (.ifCond .ne 7, 3) := dk154 (rd_c chX11_settle_6_06 (j := 15) rfl rfl) (rd_c chX11_settle_7_06 (j := 0) rfl rfl) (rd_c chX11_settle_7_06 (j := 1) rfl rfl) rfl
theorem dX11_settle_114 : decode cX11_settle 114 = .ok (.iconst 0, 1) := dk3 (rd_c chX11_settle_7_06 (j := 2) rfl rfl)
theorem dX11_settle_115 : decode cX11_settle 115 = .ok (.goto 16, 3) := dk167 (rd_c chX11_settle_7_06 (j := 3) rfl rfl) (rd_c chX11_settle_7_06 (j := 4) rfl rfl) (rd_c chX11_settle_7_06 (j := 5) rfl rfl) rfl
theorem dX11_settle_118 : decode cX11_settle 118 = .ok (.aload_n 0, 1) := dk42 (rd_c chX11_settle_7_06 (j := 6) rfl rfl)
theorem dX11_settle_119 : decode cX11_settle 119 = .ok (.getfield 92, 3) := dk180 (rd_c chX11_settle_7_06 (j := 7) rfl rfl) (rd_c chX11_settle_7_06 (j := 8) rfl rfl) (rd_c chX11_settle_7_06 (j := 9) rfl rfl) rfl
theorem dX11_settle_122 : decode cX11_settle 122 = .ok (.aload_n 0, 1) := dk42 (rd_c chX11_settle_7_06 (j := 10) rfl rfl)
theorem dX11_settle_123 : decode cX11_settle 123 = .ok (.getfield 135, 3) := dk180 (rd_c chX11_settle_7_06 (j := 11) rfl rfl) (rd_c chX11_settle_7_06 (j := 12) rfl rfl) (rd_c chX11_settle_7_06 (j := 13) rfl rfl) rfl
theorem dX11_settle_126 : decode cX11_settle 126 = .ok (.iload_n 3, 1) := dk29 (rd_c chX11_settle_7_06 (j := 14) rfl rfl)
theorem dX11_settle_127 : decode cX11_settle 127 = .ok (.iaload, 1) := dk46 (rd_c chX11_settle_7_06 (j := 15) rfl rfl)
theorem chX11_settle_8_06 : ((cX11_settle.data.toList.drop 128).take 16).map UInt8.toNat = [4, 100, 46, 54, 4, 42, 180, 0, 138, 29, 21, 4, 154, 0, 12, 42] := by decide +kernel
theorem dX11_settle_128 : decode cX11_settle 128 = .ok (.iconst 1, 1) := dk4 (rd_c chX11_settle_8_06 (j := 0) rfl rfl)
theorem dX11_settle_129 : decode cX11_settle 129 = .ok (.isub, 1) := dk100 (rd_c chX11_settle_8_06 (j := 1) rfl rfl)
theorem dX11_settle_130 : decode cX11_settle 130 = .ok (.iaload, 1) := dk46 (rd_c chX11_settle_8_06 (j := 2) rfl rfl)
theorem dX11_settle_131 : decode cX11_settle 131 = .ok (.istore 4, 2) := dk54 (rd_c chX11_settle_8_06 (j := 3) rfl rfl) (rd_c chX11_settle_8_06 (j := 4) rfl rfl)
theorem dX11_settle_133 : decode cX11_settle 133 = .ok (.aload_n 0, 1) := dk42 (rd_c chX11_settle_8_06 (j := 5) rfl rfl)
theorem dX11_settle_134 : decode cX11_settle 134 = .ok (.getfield 138, 3) := dk180 (rd_c chX11_settle_8_06 (j := 6) rfl rfl) (rd_c chX11_settle_8_06 (j := 7) rfl rfl) (rd_c chX11_settle_8_06 (j := 8) rfl rfl) rfl
theorem dX11_settle_137 : decode cX11_settle 137 = .ok (.iload_n 3, 1) := dk29 (rd_c chX11_settle_8_06 (j := 9) rfl rfl)
theorem dX11_settle_138 : decode cX11_settle 138 = .ok (.iload 4, 2) := dk21 (rd_c chX11_settle_8_06 (j := 10) rfl rfl) (rd_c chX11_settle_8_06 (j := 11) rfl rfl)
theorem dX11_settle_140 : decode cX11_settle 140 = .ok (.ifCond .ne 12, 3) := dk154 (rd_c chX11_settle_8_06 (j := 12) rfl rfl) (rd_c chX11_settle_8_06 (j := 13) rfl rfl) (rd_c chX11_settle_8_06 (j := 14) rfl rfl) rfl
theorem dX11_settle_143 : decode cX11_settle 143 = .ok (.aload_n 0, 1) := dk42 (rd_c chX11_settle_8_06 (j := 15) rfl rfl)
theorem chX11_settle_9_06 : ((cX11_settle.data.toList.drop 144).take 16).map UInt8.toNat = [180, 0, 128, 29, 47, 167, 0, 23, 21, 4, 4, 160, 0, 7, 9, 167] := by decide +kernel
theorem dX11_settle_144 : decode cX11_settle 144 = .ok (.getfield 128, 3) := dk180 (rd_c chX11_settle_9_06 (j := 0) rfl rfl) (rd_c chX11_settle_9_06 (j := 1) rfl rfl) (rd_c chX11_settle_9_06 (j := 2) rfl rfl) rfl
theorem dX11_settle_147 : decode cX11_settle 147 = .ok (.iload_n 3, 1) := dk29 (rd_c chX11_settle_9_06 (j := 3) rfl rfl)
theorem dX11_settle_148 : decode cX11_settle 148 = .ok (.laload, 1) := dk47 (rd_c chX11_settle_9_06 (j := 4) rfl rfl)
theorem dX11_settle_149 : decode cX11_settle 149 = .ok (.goto 23, 3) := dk167 (rd_c chX11_settle_9_06 (j := 5) rfl rfl) (rd_c chX11_settle_9_06 (j := 6) rfl rfl) (rd_c chX11_settle_9_06 (j := 7) rfl rfl) rfl
theorem dX11_settle_152 : decode cX11_settle 152 = .ok (.iload 4, 2) := dk21 (rd_c chX11_settle_9_06 (j := 8) rfl rfl) (rd_c chX11_settle_9_06 (j := 9) rfl rfl)
theorem dX11_settle_154 : decode cX11_settle 154 = .ok (.iconst 1, 1) := dk4 (rd_c chX11_settle_9_06 (j := 10) rfl rfl)
theorem dX11_settle_155 : decode cX11_settle 155 = .ok (.if_icmp .ne 7, 3) := dk160 (rd_c chX11_settle_9_06 (j := 11) rfl rfl) (rd_c chX11_settle_9_06 (j := 12) rfl rfl) (rd_c chX11_settle_9_06 (j := 13) rfl rfl) rfl
theorem dX11_settle_158 : decode cX11_settle 158 = .ok (.lconst 0, 1) := dk9 (rd_c chX11_settle_9_06 (j := 14) rfl rfl)
theorem chX11_settle_10_06 : ((cX11_settle.data.toList.drop 160).take 16).map UInt8.toNat = [0, 13, 42, 180, 0, 128, 29, 47, 20, 1, 75, 109, 80, 42, 180, 0] := by decide +kernel
theorem dX11_settle_159 : decode cX11_settle 159 = .ok (.goto 13, 3) := dk167 (rd_c chX11_settle_9_06 (j := 15) rfl rfl) (rd_c chX11_settle_10_06 (j := 0) rfl rfl) (rd_c chX11_settle_10_06 (j := 1) rfl rfl) rfl
theorem dX11_settle_162 : decode cX11_settle 162 = .ok (.aload_n 0, 1) := dk42 (rd_c chX11_settle_10_06 (j := 2) rfl rfl)
theorem dX11_settle_163 : decode cX11_settle 163 = .ok (.getfield 128, 3) := dk180 (rd_c chX11_settle_10_06 (j := 3) rfl rfl) (rd_c chX11_settle_10_06 (j := 4) rfl rfl) (rd_c chX11_settle_10_06 (j := 5) rfl rfl) rfl
theorem dX11_settle_166 : decode cX11_settle 166 = .ok (.iload_n 3, 1) := dk29 (rd_c chX11_settle_10_06 (j := 6) rfl rfl)
theorem dX11_settle_167 : decode cX11_settle 167 = .ok (.laload, 1) := dk47 (rd_c chX11_settle_10_06 (j := 7) rfl rfl)
theorem dX11_settle_168 : decode cX11_settle 168 = .ok (.ldc2_w 331, 3) := dk20 (rd_c chX11_settle_10_06 (j := 8) rfl rfl) (rd_c chX11_settle_10_06 (j := 9) rfl rfl) (rd_c chX11_settle_10_06 (j := 10) rfl rfl) rfl
theorem dX11_settle_171 : decode cX11_settle 171 = .ok (.ldiv, 1) := dk109 (rd_c chX11_settle_10_06 (j := 11) rfl rfl)
theorem dX11_settle_172 : decode cX11_settle 172 = .ok (.lastore, 1) := dk80 (rd_c chX11_settle_10_06 (j := 12) rfl rfl)
theorem dX11_settle_173 : decode cX11_settle 173 = .ok (.aload_n 0, 1) := dk42 (rd_c chX11_settle_10_06 (j := 13) rfl rfl)
theorem chX11_settle_11_06 : ((cX11_settle.data.toList.drop 176).take 16).map UInt8.toNat = [141, 42, 180, 0, 101, 29, 46, 92, 47, 42, 180, 0, 138, 29, 47, 97] := by decide +kernel
theorem dX11_settle_174 : decode cX11_settle 174 = .ok (.getfield 141, 3) := dk180 (rd_c chX11_settle_10_06 (j := 14) rfl rfl) (rd_c chX11_settle_10_06 (j := 15) rfl rfl) (rd_c chX11_settle_11_06 (j := 0) rfl rfl) rfl
theorem dX11_settle_177 : decode cX11_settle 177 = .ok (.aload_n 0, 1) := dk42 (rd_c chX11_settle_11_06 (j := 1) rfl rfl)
theorem dX11_settle_178 : decode cX11_settle 178 = .ok (.getfield 101, 3) := dk180 (rd_c chX11_settle_11_06 (j := 2) rfl rfl) (rd_c chX11_settle_11_06 (j := 3) rfl rfl) (rd_c chX11_settle_11_06 (j := 4) rfl rfl) rfl
theorem dX11_settle_181 : decode cX11_settle 181 = .ok (.iload_n 3, 1) := dk29 (rd_c chX11_settle_11_06 (j := 5) rfl rfl)
theorem dX11_settle_182 : decode cX11_settle 182 = .ok (.iaload, 1) := dk46 (rd_c chX11_settle_11_06 (j := 6) rfl rfl)
theorem dX11_settle_183 : decode cX11_settle 183 = .ok (.dup2, 1) := dk92 (rd_c chX11_settle_11_06 (j := 7) rfl rfl)
theorem dX11_settle_184 : decode cX11_settle 184 = .ok (.laload, 1) := dk47 (rd_c chX11_settle_11_06 (j := 8) rfl rfl)
theorem dX11_settle_185 : decode cX11_settle 185 = .ok (.aload_n 0, 1) := dk42 (rd_c chX11_settle_11_06 (j := 9) rfl rfl)
theorem dX11_settle_186 : decode cX11_settle 186 = .ok (.getfield 138, 3) := dk180 (rd_c chX11_settle_11_06 (j := 10) rfl rfl) (rd_c chX11_settle_11_06 (j := 11) rfl rfl) (rd_c chX11_settle_11_06 (j := 12) rfl rfl) rfl
theorem dX11_settle_189 : decode cX11_settle 189 = .ok (.iload_n 3, 1) := dk29 (rd_c chX11_settle_11_06 (j := 13) rfl rfl)
theorem dX11_settle_190 : decode cX11_settle 190 = .ok (.laload, 1) := dk47 (rd_c chX11_settle_11_06 (j := 14) rfl rfl)
theorem dX11_settle_191 : decode cX11_settle 191 = .ok (.ladd, 1) := dk97 (rd_c chX11_settle_11_06 (j := 15) rfl rfl)
theorem chX11_settle_12_06 : ((cX11_settle.data.toList.drop 192).take 16).map UInt8.toNat = [80, 132, 2, 1, 132, 3, 1, 167, 255, 129, 42, 182, 1, 77, 28, 172] := by decide +kernel
theorem dX11_settle_192 : decode cX11_settle 192 = .ok (.lastore, 1) := dk80 (rd_c chX11_settle_12_06 (j := 0) rfl rfl)
theorem dX11_settle_193 : decode cX11_settle 193 = .ok (.iinc 2 1, 3) := dk132 (rd_c chX11_settle_12_06 (j := 1) rfl rfl) (rd_c chX11_settle_12_06 (j := 2) rfl rfl) (rd_c chX11_settle_12_06 (j := 3) rfl rfl) rfl
theorem dX11_settle_196 : decode cX11_settle 196 = .ok (.iinc 3 1, 3) := dk132 (rd_c chX11_settle_12_06 (j := 4) rfl rfl) (rd_c chX11_settle_12_06 (j := 5) rfl rfl) (rd_c chX11_settle_12_06 (j := 6) rfl rfl) rfl
theorem dX11_settle_199 : decode cX11_settle 199 = .ok (.goto (-127), 3) := dk167 (rd_c chX11_settle_12_06 (j := 7) rfl rfl) (rd_c chX11_settle_12_06 (j := 8) rfl rfl) (rd_c chX11_settle_12_06 (j := 9) rfl rfl) rfl
theorem dX11_settle_202 : decode cX11_settle 202 = .ok (.aload_n 0, 1) := dk42 (rd_c chX11_settle_12_06 (j := 10) rfl rfl)
theorem dX11_settle_203 : decode cX11_settle 203 = .ok (.invokevirtual 333, 3) := dk182 (rd_c chX11_settle_12_06 (j := 11) rfl rfl) (rd_c chX11_settle_12_06 (j := 12) rfl rfl) (rd_c chX11_settle_12_06 (j := 13) rfl rfl) rfl
theorem dX11_settle_206 : decode cX11_settle 206 = .ok (.iload_n 2, 1) := dk28 (rd_c chX11_settle_12_06 (j := 14) rfl rfl)
theorem dX11_settle_207 : decode cX11_settle 207 = .ok (.ireturn, 1) := dk172 (rd_c chX11_settle_12_06 (j := 15) rfl rfl)
theorem chX11_gift_0_06 : ((cX11_gift.data.toList.drop 0).take 16).map UInt8.toNat = [42, 180, 0, 147, 42, 180, 1, 80, 27, 79, 42, 180, 0, 150, 42, 180] := by decide +kernel
theorem dX11_gift_0 : decode cX11_gift 0 = .ok (.aload_n 0, 1) := dk42 (rd_c chX11_gift_0_06 (j := 0) rfl rfl)
theorem dX11_gift_1 : decode cX11_gift 1 = .ok (.getfield 147, 3) := dk180 (rd_c chX11_gift_0_06 (j := 1) rfl rfl) (rd_c chX11_gift_0_06 (j := 2) rfl rfl) (rd_c chX11_gift_0_06 (j := 3) rfl rfl) rfl
theorem dX11_gift_4 : decode cX11_gift 4 = .ok (.aload_n 0, 1) := dk42 (rd_c chX11_gift_0_06 (j := 4) rfl rfl)
theorem dX11_gift_5 : decode cX11_gift 5 = .ok (.getfield 336, 3) := dk180 (rd_c chX11_gift_0_06 (j := 5) rfl rfl) (rd_c chX11_gift_0_06 (j := 6) rfl rfl) (rd_c chX11_gift_0_06 (j := 7) rfl rfl) rfl
theorem dX11_gift_8 : decode cX11_gift 8 = .ok (.iload_n 1, 1) := dk27 (rd_c chX11_gift_0_06 (j := 8) rfl rfl)
theorem dX11_gift_9 : decode cX11_gift 9 = .ok (.iastore, 1) := dk79 (rd_c chX11_gift_0_06 (j := 9) rfl rfl)
