set_option maxRecDepth 20000 in
theorem ggL_isUser_X5_versionOn : GoodIn wsL_isUser wsX5_versionOn := goodIn_ca (goodIn_ca (goodIn_r _ [5, 6, 7, 8, 9, 10, 4, 11, 12, 13, 14, 15, 16, 17, 18, 19, 20, 21, 22, 23, 24, 25, 26, 27, 28, 29, 30, 31, 32, 33, 34, 35, 36, 37, 38, 39, 40, 41, 42, 43, 183, 184, 185, 186, 187, 188, 189, 190, 191, 192, 193, 194, 195, 196, 197] (by decide +kernel) (by decide +kernel)) (goodIn_sub (fun _ h => List.mem_cons_of_mem _ (List.mem_append_left _ (List.mem_append_right _ h))) (by decide +kernel))) (goodIn_sub (fun _ h => List.mem_cons_of_mem _ (List.mem_append_right _ h)) (by decide +kernel))
set_option maxRecDepth 20000 in
theorem gL_isUser_X5_versionOn : GoodIn wsL_isUser (wsV RL 60 RX5 yX5_versionOn wsX5_versionOn) := goodIn_app (goodIn_of _ (by decide +kernel)) ggL_isUser_X5_versionOn
set_option maxRecDepth 20000 in
theorem ggL_isUser_X5_value : GoodIn wsL_isUser wsX5_value := goodIn_ca (goodIn_r _ [47, 6, 24, 25, 4, 26, 27, 28, 29, 30, 31, 48, 49, 50, 51, 52, 53, 54, 55, 56, 57, 58, 59, 60, 61, 62, 35, 63, 64, 40, 41, 42, 43, 38, 65, 66, 67, 68, 69, 70, 71, 72, 73, 74, 75, 76, 77, 78, 79, 80, 81, 82, 83, 84, 85, 86, 87, 88, 89, 90, 91, 92, 93, 94, 95, 96, 97, 98, 99, 100, 101, 102, 103, 104, 105, 106, 107, 108, 109, 110, 111, 33, 34, 36, 37, 39, 112, 113, 114, 115, 116, 117, 118, 119, 120, 121, 122, 123, 124, 125, 126, 127, 128, 129, 130, 131, 132, 133, 134, 135, 136, 137, 183, 184, 185, 186, 187, 188, 189, 190, 198, 199, 200, 201, 202, 191, 192, 193, 194, 195, 196, 197, 203, 204, 205, 206, 207, 208] (by decide +kernel) (by decide +kernel)) (goodIn_sub (fun _ h => List.mem_cons_of_mem _ (List.mem_append_right _ h)) (by decide +kernel))
set_option maxRecDepth 20000 in
theorem gL_isUser_X5_value : GoodIn wsL_isUser (wsV RL 9 RX5 yX5_value wsX5_value) := goodIn_app (goodIn_of _ (by decide +kernel)) ggL_isUser_X5_value
set_option maxRecDepth 20000 in
theorem ggL_isUser_X5_served : GoodIn wsL_isUser wsX5_served := goodIn_ca (goodIn_ca (goodIn_r _ [141, 6, 7, 12, 142, 13, 14, 4, 15, 16, 17, 18, 19, 20, 21, 22, 23, 24, 25, 26, 27, 28, 29, 30, 31, 143, 144, 145, 51, 146, 56, 110, 53, 94, 95, 116, 58, 147, 148, 111, 33, 34, 35, 36, 37, 38, 39, 40, 41, 42, 43, 124, 125, 126, 127, 128, 129, 130, 131, 132, 133, 134, 135, 136, 137, 183, 184, 185, 186, 187, 188, 189, 190, 191, 192, 193, 194, 195, 196, 197, 198, 199, 200, 201, 202, 203, 204, 205, 206, 207, 208] (by decide +kernel) (by decide +kernel)) (goodIn_sub (fun _ h => List.mem_cons_of_mem _ (List.mem_append_left _ (List.mem_append_right _ h))) (by decide +kernel))) (goodIn_sub (fun _ h => List.mem_cons_of_mem _ (List.mem_append_right _ h)) (by decide +kernel))
set_option maxRecDepth 20000 in
theorem gL_isUser_X5_served : GoodIn wsL_isUser (wsV RL 63 RX5 yX5_served wsX5_served) := goodIn_app (goodIn_of _ (by decide +kernel)) ggL_isUser_X5_served
set_option maxRecDepth 20000 in
theorem ggL_isUser_X5_user : GoodIn wsL_isUser wsX5_user := goodIn_ca (goodIn_ca (goodIn_r _ [152, 6, 7, 12, 13, 14, 4, 15, 16, 17, 18, 19, 20, 24, 25, 26, 27, 28, 29, 30, 31, 153, 154, 155, 35, 156, 39, 69, 38, 37, 81, 157, 183, 184, 185, 186, 187, 188, 189, 190, 191, 192, 193, 194, 195, 196, 197] (by decide +kernel) (by decide +kernel)) (goodIn_sub (fun _ h => List.mem_cons_of_mem _ (List.mem_append_left _ (List.mem_append_right _ h))) (by decide +kernel))) (goodIn_sub (fun _ h => List.mem_cons_of_mem _ (List.mem_append_right _ h)) (by decide +kernel))
set_option maxRecDepth 20000 in
theorem gL_isUser_X5_user : GoodIn wsL_isUser (wsV RL 41 RX5 yX5_user wsX5_user) := goodIn_app (goodIn_of _ (by decide +kernel)) ggL_isUser_X5_user
set_option maxRecDepth 20000 in
theorem ggL_isUser_X5_version : GoodIn wsL_isUser wsX5_version := goodIn_ca (goodIn_ca (goodIn_r _ [161, 6, 162, 163, 13, 14, 4, 15, 16, 17, 18, 19, 20, 24, 25, 26, 27, 28, 29, 30, 31, 164, 165, 166, 51, 167, 53, 94, 95, 116, 168, 58, 169, 170, 171, 127, 172, 129, 135, 183, 184, 185, 186, 187, 188, 189, 190, 198, 199, 200, 201, 202, 203, 204, 205, 206, 207, 208] (by decide +kernel) (by decide +kernel)) (goodIn_sub (fun _ h => List.mem_cons_of_mem _ (List.mem_append_left _ (List.mem_append_right _ h))) (by decide +kernel))) (goodIn_sub (fun _ h => List.mem_cons_of_mem _ (List.mem_append_right _ h)) (by decide +kernel))
set_option maxRecDepth 20000 in
theorem gL_isUser_X5_version : GoodIn wsL_isUser (wsV RL 27 RX5 yX5_version wsX5_version) := goodIn_app (goodIn_of _ (by decide +kernel)) ggL_isUser_X5_version
set_option maxRecDepth 20000 in
theorem ggL_isUser_X5_missing : GoodIn wsL_isUser wsX5_missing := goodIn_ca (goodIn_ca (goodIn_r _ [176, 6, 8, 9, 10, 4, 11, 7, 12, 13, 14, 15, 16, 17, 18, 19, 20, 21, 22, 23, 24, 25, 26, 27, 28, 29, 30, 31, 177, 107, 108, 51, 109, 56, 110, 111, 33, 34, 35, 36, 37, 38, 39, 40, 41, 42, 43, 112, 113, 114, 115, 53, 116, 58, 117, 118, 119, 120, 121, 122, 123, 124, 125, 126, 127, 128, 129, 130, 131, 132, 133, 134, 135, 136, 137, 183, 184, 185, 186, 187, 188, 189, 190, 191, 192, 193, 194, 195, 196, 197, 198, 199, 200, 201, 202, 203, 204, 205, 206, 207, 208] (by decide +kernel) (by decide +kernel)) (goodIn_sub (fun _ h => List.mem_cons_of_mem _ (List.mem_append_left _ (List.mem_append_right _ h))) (by decide +kernel))) (goodIn_sub (fun _ h => List.mem_cons_of_mem _ (List.mem_append_right _ h)) (by decide +kernel))
set_option maxRecDepth 20000 in
theorem gL_isUser_X5_missing : GoodIn wsL_isUser (wsV RL 66 RX5 yX5_missing wsX5_missing) := goodIn_app (goodIn_of _ (by decide +kernel)) ggL_isUser_X5_missing
set_option maxRecDepth 20000 in
theorem ggL_isUser_X5_stranded : GoodIn wsL_isUser wsX5_stranded := goodIn_ca (goodIn_r _ [181, 6, 21, 22, 4, 23, 24, 25, 26, 27, 28, 29, 30, 31, 182, 103, 104, 51, 105, 56, 57, 106, 107, 108, 109, 110, 111, 33, 34, 35, 36, 37, 38, 39, 40, 41, 42, 43, 112, 113, 114, 115, 53, 116, 58, 117, 118, 119, 120, 121, 122, 123, 124, 125, 126, 127, 128, 129, 130, 131, 132, 133, 134, 135, 136, 137, 183, 184, 185, 186, 187, 188, 189, 190, 191, 192, 193, 194, 195, 196, 197, 198, 199, 200, 201, 202, 203, 204, 205, 206, 207, 208] (by decide +kernel) (by decide +kernel)) (goodIn_sub (fun _ h => List.mem_cons_of_mem _ (List.mem_append_right _ h)) (by decide +kernel))
set_option maxRecDepth 20000 in
theorem gL_isUser_X5_stranded : GoodIn wsL_isUser (wsV RL 69 RX5 yX5_stranded wsX5_stranded) := goodIn_app (goodIn_of _ (by decide +kernel)) ggL_isUser_X5_stranded
theorem dL_isUser_0 : decode cL_isUser 0 = .ok (.aload_n 0, 1) := by decide +kernel
theorem dL_isUser_1 : decode cL_isUser 1 = .ok (.iload_n 1, 1) := by decide +kernel
theorem dL_isUser_2 : decode cL_isUser 2 = .ok (.iload_n 2, 1) := by decide +kernel
theorem dL_isUser_3 : decode cL_isUser 3 = .ok (.invokevirtual 60, 3) := by decide +kernel
theorem dL_isUser_6 : decode cL_isUser 6 = .ok (.istore_n 3, 1) := by decide +kernel
theorem dL_isUser_7 : decode cL_isUser 7 = .ok (.iconst 0, 1) := by decide +kernel
theorem dL_isUser_8 : decode cL_isUser 8 = .ok (.istore 4, 2) := by decide +kernel
theorem dL_isUser_10 : decode cL_isUser 10 = .ok (.iconst 1, 1) := by decide +kernel
theorem dL_isUser_11 : decode cL_isUser 11 = .ok (.istore 5, 2) := by decide +kernel
theorem dL_isUser_13 : decode cL_isUser 13 = .ok (.iconst 0, 1) := by decide +kernel
theorem dL_isUser_14 : decode cL_isUser 14 = .ok (.istore 6, 2) := by decide +kernel
theorem dL_isUser_16 : decode cL_isUser 16 = .ok (.iload 6, 2) := by decide +kernel
theorem dL_isUser_18 : decode cL_isUser 18 = .ok (.aload_n 0, 1) := by decide +kernel
theorem dL_isUser_19 : decode cL_isUser 19 = .ok (.iconst 1, 1) := by decide +kernel
theorem dL_isUser_20 : decode cL_isUser 20 = .ok (.invokevirtual 9, 3) := by decide +kernel
theorem dL_isUser_23 : decode cL_isUser 23 = .ok (.if_icmp .ge 216, 3) := by decide +kernel
theorem dL_isUser_26 : decode cL_isUser 26 = .ok (.aload_n 0, 1) := by decide +kernel
theorem dL_isUser_27 : decode cL_isUser 27 = .ok (.iload_n 1, 1) := by decide +kernel
theorem dL_isUser_28 : decode cL_isUser 28 = .ok (.iload 6, 2) := by decide +kernel
theorem dL_isUser_30 : decode cL_isUser 30 = .ok (.iload_n 2, 1) := by decide +kernel
theorem dL_isUser_31 : decode cL_isUser 31 = .ok (.invokevirtual 63, 3) := by decide +kernel
theorem dL_isUser_34 : decode cL_isUser 34 = .ok (.istore 7, 2) := by decide +kernel
theorem dL_isUser_36 : decode cL_isUser 36 = .ok (.aload_n 0, 1) := by decide +kernel
theorem dL_isUser_37 : decode cL_isUser 37 = .ok (.iload_n 1, 1) := by decide +kernel
theorem dL_isUser_38 : decode cL_isUser 38 = .ok (.iconst 1, 1) := by decide +kernel
theorem dL_isUser_39 : decode cL_isUser 39 = .ok (.invokevirtual 41, 3) := by decide +kernel
theorem dL_isUser_42 : decode cL_isUser 42 = .ok (.iload 6, 2) := by decide +kernel
theorem dL_isUser_44 : decode cL_isUser 44 = .ok (.ishr, 1) := by decide +kernel
theorem dL_isUser_45 : decode cL_isUser 45 = .ok (.iconst 1, 1) := by decide +kernel
theorem dL_isUser_46 : decode cL_isUser 46 = .ok (.iand, 1) := by decide +kernel
theorem dL_isUser_47 : decode cL_isUser 47 = .ok (.iconst 1, 1) := by decide +kernel
theorem dL_isUser_48 : decode cL_isUser 48 = .ok (.if_icmp .ne 7, 3) := by decide +kernel
theorem dL_isUser_51 : decode cL_isUser 51 = .ok (.iconst 1, 1) := by decide +kernel
theorem dL_isUser_52 : decode cL_isUser 52 = .ok (.goto 4, 3) := by decide +kernel
theorem dL_isUser_55 : decode cL_isUser 55 = .ok (.iconst 0, 1) := by decide +kernel
theorem dL_isUser_56 : decode cL_isUser 56 = .ok (.istore 8, 2) := by decide +kernel
theorem dL_isUser_58 : decode cL_isUser 58 = .ok (.iload_n 2, 1) := by decide +kernel
theorem dL_isUser_59 : decode cL_isUser 59 = .ok (.aload_n 0, 1) := by decide +kernel
theorem dL_isUser_60 : decode cL_isUser 60 = .ok (.iload_n 3, 1) := by decide +kernel
theorem dL_isUser_61 : decode cL_isUser 61 = .ok (.iconst 0, 1) := by decide +kernel
theorem dL_isUser_62 : decode cL_isUser 62 = .ok (.invokevirtual 27, 3) := by decide +kernel
theorem dL_isUser_65 : decode cL_isUser 65 = .ok (.if_icmp .lt 17, 3) := by decide +kernel
theorem dL_isUser_68 : decode cL_isUser 68 = .ok (.iload_n 2, 1) := by decide +kernel
theorem dL_isUser_69 : decode cL_isUser 69 = .ok (.aload_n 0, 1) := by decide +kernel
theorem dL_isUser_70 : decode cL_isUser 70 = .ok (.iload_n 3, 1) := by decide +kernel
theorem dL_isUser_71 : decode cL_isUser 71 = .ok (.iconst 1, 1) := by decide +kernel
theorem dL_isUser_72 : decode cL_isUser 72 = .ok (.invokevirtual 27, 3) := by decide +kernel
theorem dL_isUser_75 : decode cL_isUser 75 = .ok (.if_icmp .ge 7, 3) := by decide +kernel
theorem dL_isUser_78 : decode cL_isUser 78 = .ok (.iconst 1, 1) := by decide +kernel
theorem dL_isUser_79 : decode cL_isUser 79 = .ok (.goto 4, 3) := by decide +kernel
theorem dL_isUser_82 : decode cL_isUser 82 = .ok (.iconst 0, 1) := by decide +kernel
theorem dL_isUser_83 : decode cL_isUser 83 = .ok (.istore 9, 2) := by decide +kernel
theorem dL_isUser_85 : decode cL_isUser 85 = .ok (.aload_n 0, 1) := by decide +kernel
theorem dL_isUser_86 : decode cL_isUser 86 = .ok (.iload_n 3, 1) := by decide +kernel
theorem dL_isUser_87 : decode cL_isUser 87 = .ok (.iconst 2, 1) := by decide +kernel
theorem dL_isUser_88 : decode cL_isUser 88 = .ok (.invokevirtual 27, 3) := by decide +kernel
theorem dL_isUser_91 : decode cL_isUser 91 = .ok (.iload 6, 2) := by decide +kernel
theorem dL_isUser_93 : decode cL_isUser 93 = .ok (.ishr, 1) := by decide +kernel
theorem dL_isUser_94 : decode cL_isUser 94 = .ok (.iconst 1, 1) := by decide +kernel
theorem dL_isUser_95 : decode cL_isUser 95 = .ok (.iand, 1) := by decide +kernel
theorem dL_isUser_96 : decode cL_isUser 96 = .ok (.iconst 1, 1) := by decide +kernel
theorem dL_isUser_97 : decode cL_isUser 97 = .ok (.if_icmp .ne 7, 3) := by decide +kernel
theorem dL_isUser_100 : decode cL_isUser 100 = .ok (.iconst 1, 1) := by decide +kernel
theorem dL_isUser_101 : decode cL_isUser 101 = .ok (.goto 4, 3) := by decide +kernel
theorem dL_isUser_104 : decode cL_isUser 104 = .ok (.iconst 0, 1) := by decide +kernel
theorem dL_isUser_105 : decode cL_isUser 105 = .ok (.istore 10, 2) := by decide +kernel
theorem dL_isUser_107 : decode cL_isUser 107 = .ok (.iload 5, 2) := by decide +kernel
theorem dL_isUser_109 : decode cL_isUser 109 = .ok (.ifCond .eq 95, 3) := by decide +kernel
theorem dL_isUser_112 : decode cL_isUser 112 = .ok (.iload 7, 2) := by decide +kernel
theorem dL_isUser_114 : decode cL_isUser 114 = .ok (.iconst 5, 1) := by decide +kernel
theorem dL_isUser_115 : decode cL_isUser 115 = .ok (.if_icmp .ne 7, 3) := by decide +kernel
theorem dL_isUser_118 : decode cL_isUser 118 = .ok (.iconst 1, 1) := by decide +kernel
theorem dL_isUser_119 : decode cL_isUser 119 = .ok (.goto 4, 3) := by decide +kernel
theorem dL_isUser_122 : decode cL_isUser 122 = .ok (.iconst 0, 1) := by decide +kernel
theorem dL_isUser_123 : decode cL_isUser 123 = .ok (.iload 8, 2) := by decide +kernel
theorem dL_isUser_125 : decode cL_isUser 125 = .ok (.ifCond .ne 7, 3) := by decide +kernel
theorem dL_isUser_128 : decode cL_isUser 128 = .ok (.iconst 1, 1) := by decide +kernel
theorem dL_isUser_129 : decode cL_isUser 129 = .ok (.goto 4, 3) := by decide +kernel
theorem dL_isUser_132 : decode cL_isUser 132 = .ok (.iconst 0, 1) := by decide +kernel
theorem dL_isUser_133 : decode cL_isUser 133 = .ok (.if_icmp .ne 71, 3) := by decide +kernel
theorem dL_isUser_136 : decode cL_isUser 136 = .ok (.iload 7, 2) := by decide +kernel
theorem dL_isUser_138 : decode cL_isUser 138 = .ok (.iconst 4, 1) := by decide +kernel
theorem dL_isUser_139 : decode cL_isUser 139 = .ok (.if_icmp .gt 61, 3) := by decide +kernel
theorem dL_isUser_142 : decode cL_isUser 142 = .ok (.iload 7, 2) := by decide +kernel
theorem dL_isUser_144 : decode cL_isUser 144 = .ok (.iconst 2, 1) := by decide +kernel
theorem dL_isUser_145 : decode cL_isUser 145 = .ok (.if_icmp .eq 9, 3) := by decide +kernel
theorem dL_isUser_148 : decode cL_isUser 148 = .ok (.iload 7, 2) := by decide +kernel
theorem dL_isUser_150 : decode cL_isUser 150 = .ok (.iconst 3, 1) := by decide +kernel
theorem dL_isUser_151 : decode cL_isUser 151 = .ok (.if_icmp .ne 7, 3) := by decide +kernel
theorem dL_isUser_154 : decode cL_isUser 154 = .ok (.iconst 1, 1) := by decide +kernel
theorem dL_isUser_155 : decode cL_isUser 155 = .ok (.goto 4, 3) := by decide +kernel
theorem dL_isUser_158 : decode cL_isUser 158 = .ok (.iconst 0, 1) := by decide +kernel
theorem dL_isUser_159 : decode cL_isUser 159 = .ok (.iload 9, 2) := by decide +kernel
theorem dL_isUser_161 : decode cL_isUser 161 = .ok (.ifCond .ne 7, 3) := by decide +kernel
theorem dL_isUser_164 : decode cL_isUser 164 = .ok (.iconst 1, 1) := by decide +kernel
theorem dL_isUser_165 : decode cL_isUser 165 = .ok (.goto 4, 3) := by decide +kernel
theorem dL_isUser_168 : decode cL_isUser 168 = .ok (.iconst 0, 1) := by decide +kernel
theorem dL_isUser_169 : decode cL_isUser 169 = .ok (.if_icmp .ne 35, 3) := by decide +kernel
theorem dL_isUser_172 : decode cL_isUser 172 = .ok (.iload 7, 2) := by decide +kernel
theorem dL_isUser_174 : decode cL_isUser 174 = .ok (.ifCond .ne 7, 3) := by decide +kernel
theorem dL_isUser_177 : decode cL_isUser 177 = .ok (.iconst 1, 1) := by decide +kernel
theorem dL_isUser_178 : decode cL_isUser 178 = .ok (.goto 4, 3) := by decide +kernel
theorem dL_isUser_181 : decode cL_isUser 181 = .ok (.iconst 0, 1) := by decide +kernel
theorem dL_isUser_182 : decode cL_isUser 182 = .ok (.iload 9, 2) := by decide +kernel
theorem dL_isUser_184 : decode cL_isUser 184 = .ok (.ifCond .eq 12, 3) := by decide +kernel
theorem dL_isUser_187 : decode cL_isUser 187 = .ok (.iload 10, 2) := by decide +kernel
theorem dL_isUser_189 : decode cL_isUser 189 = .ok (.ifCond .eq 7, 3) := by decide +kernel
theorem dL_isUser_192 : decode cL_isUser 192 = .ok (.iconst 1, 1) := by decide +kernel
theorem dL_isUser_193 : decode cL_isUser 193 = .ok (.goto 4, 3) := by decide +kernel
theorem dL_isUser_196 : decode cL_isUser 196 = .ok (.iconst 0, 1) := by decide +kernel
theorem dL_isUser_197 : decode cL_isUser 197 = .ok (.if_icmp .ne 7, 3) := by decide +kernel
theorem dL_isUser_200 : decode cL_isUser 200 = .ok (.iconst 1, 1) := by decide +kernel
theorem dL_isUser_201 : decode cL_isUser 201 = .ok (.goto 4, 3) := by decide +kernel
theorem dL_isUser_204 : decode cL_isUser 204 = .ok (.iconst 0, 1) := by decide +kernel
theorem dL_isUser_205 : decode cL_isUser 205 = .ok (.istore 5, 2) := by decide +kernel
theorem dL_isUser_207 : decode cL_isUser 207 = .ok (.iload 7, 2) := by decide +kernel
theorem dL_isUser_209 : decode cL_isUser 209 = .ok (.iconst 1, 1) := by decide +kernel
theorem dL_isUser_210 : decode cL_isUser 210 = .ok (.if_icmp .le 19, 3) := by decide +kernel
theorem dL_isUser_213 : decode cL_isUser 213 = .ok (.iload 7, 2) := by decide +kernel
theorem dL_isUser_215 : decode cL_isUser 215 = .ok (.iconst 5, 1) := by decide +kernel
theorem dL_isUser_216 : decode cL_isUser 216 = .ok (.if_icmp .ge 13, 3) := by decide +kernel
theorem dL_isUser_219 : decode cL_isUser 219 = .ok (.iload 4, 2) := by decide +kernel
theorem dL_isUser_221 : decode cL_isUser 221 = .ok (.iconst 1, 1) := by decide +kernel
theorem dL_isUser_222 : decode cL_isUser 222 = .ok (.iload 6, 2) := by decide +kernel
theorem dL_isUser_224 : decode cL_isUser 224 = .ok (.ishl, 1) := by decide +kernel
theorem dL_isUser_225 : decode cL_isUser 225 = .ok (.ior, 1) := by decide +kernel
theorem dL_isUser_226 : decode cL_isUser 226 = .ok (.goto 5, 3) := by decide +kernel
theorem dL_isUser_229 : decode cL_isUser 229 = .ok (.iload 4, 2) := by decide +kernel
theorem dL_isUser_231 : decode cL_isUser 231 = .ok (.istore 4, 2) := by decide +kernel
theorem dL_isUser_233 : decode cL_isUser 233 = .ok (.iinc 6 1, 3) := by decide +kernel
theorem dL_isUser_236 : decode cL_isUser 236 = .ok (.goto (-220), 3) := by decide +kernel
theorem dL_isUser_239 : decode cL_isUser 239 = .ok (.iload 5, 2) := by decide +kernel
theorem dL_isUser_241 : decode cL_isUser 241 = .ok (.ifCond .eq 40, 3) := by decide +kernel
theorem dL_isUser_244 : decode cL_isUser 244 = .ok (.aload_n 0, 1) := by decide +kernel
theorem dL_isUser_245 : decode cL_isUser 245 = .ok (.iload_n 1, 1) := by decide +kernel
theorem dL_isUser_246 : decode cL_isUser 246 = .ok (.iload_n 2, 1) := by decide +kernel
theorem dL_isUser_247 : decode cL_isUser 247 = .ok (.invokevirtual 66, 3) := by decide +kernel
theorem dL_isUser_250 : decode cL_isUser 250 = .ok (.iload 4, 2) := by decide +kernel
theorem dL_isUser_252 : decode cL_isUser 252 = .ok (.if_icmp .ne 29, 3) := by decide +kernel
theorem dL_isUser_255 : decode cL_isUser 255 = .ok (.aload_n 0, 1) := by decide +kernel
theorem dL_isUser_256 : decode cL_isUser 256 = .ok (.iload_n 2, 1) := by decide +kernel
theorem dL_isUser_257 : decode cL_isUser 257 = .ok (.invokevirtual 69, 3) := by decide +kernel
theorem dL_isUser_260 : decode cL_isUser 260 = .ok (.iload_n 1, 1) := by decide +kernel
theorem dL_isUser_261 : decode cL_isUser 261 = .ok (.ishr, 1) := by decide +kernel
theorem dL_isUser_262 : decode cL_isUser 262 = .ok (.iconst 1, 1) := by decide +kernel
theorem dL_isUser_263 : decode cL_isUser 263 = .ok (.iand, 1) := by decide +kernel
theorem dL_isUser_264 : decode cL_isUser 264 = .ok (.iload 4, 2) := by decide +kernel
theorem dL_isUser_266 : decode cL_isUser 266 = .ok (.ifCond .ne 7, 3) := by decide +kernel
theorem dL_isUser_269 : decode cL_isUser 269 = .ok (.iconst 0, 1) := by decide +kernel
theorem dL_isUser_270 : decode cL_isUser 270 = .ok (.goto 4, 3) := by decide +kernel
theorem dL_isUser_273 : decode cL_isUser 273 = .ok (.iconst 1, 1) := by decide +kernel
theorem dL_isUser_274 : decode cL_isUser 274 = .ok (.if_icmp .ne 7, 3) := by decide +kernel
theorem dL_isUser_277 : decode cL_isUser 277 = .ok (.iconst 1, 1) := by decide +kernel
theorem dL_isUser_278 : decode cL_isUser 278 = .ok (.goto 4, 3) := by decide +kernel
theorem dL_isUser_281 : decode cL_isUser 281 = .ok (.iconst 0, 1) := by decide +kernel
theorem dL_isUser_282 : decode cL_isUser 282 = .ok (.ireturn, 1) := by decide +kernel
set_option maxRecDepth 20000 in
theorem ggL_isDay_X5_value : GoodIn wsL_isDay wsX5_value := goodIn_ca (goodIn_r _ [5, 6, 7, 8, 4, 9, 10, 11, 12, 13, 14, 15, 16, 17, 18, 19, 20, 21, 22, 23, 24, 25, 26, 27, 28, 29, 30, 31, 32, 33, 34, 35, 36, 37, 38, 39, 40, 41, 42, 43, 44, 45, 46, 47, 48, 49, 50, 51, 52, 53, 54, 55, 56, 57, 58, 59, 60, 61, 62, 63, 64, 65, 66, 67, 68, 69, 70, 71, 72, 73, 74, 75, 76, 77, 78, 79, 80, 81, 82, 83, 84, 85, 86, 87, 88, 89, 90, 91, 92, 93, 94, 95, 96, 97, 98, 99, 100, 101, 102, 103, 104, 105, 106, 107, 108, 109, 110, 111, 112, 113, 114, 115, 212, 213, 214, 215, 216, 217, 218, 219, 220, 221, 222, 223, 224, 225, 226, 227, 228, 229, 230, 231, 232, 233, 234, 235, 236, 237] (by decide +kernel) (by decide +kernel)) (goodIn_sub (fun _ h => List.mem_cons_of_mem _ (List.mem_append_left _ (List.mem_append_right _ h))) (by decide +kernel))
set_option maxRecDepth 20000 in
theorem gL_isDay_X5_value : GoodIn wsL_isDay (wsV RL 9 RX5 yX5_value wsX5_value) := goodIn_app (goodIn_of _ (by decide +kernel)) ggL_isDay_X5_value
set_option maxRecDepth 20000 in
theorem ggL_isDay_X5_user : GoodIn wsL_isDay wsX5_user := goodIn_ca (goodIn_ca (goodIn_r _ [119, 6, 120, 121, 122, 123, 4, 124, 125, 126, 127, 128, 129, 7, 8, 9, 10, 11, 12, 13, 14, 130, 131, 132, 30, 133, 89, 42, 37, 88, 54, 134, 212, 213, 214, 215, 216, 217, 218, 219, 225, 226, 227, 228, 229, 230, 231] (by decide +kernel) (by decide +kernel)) (goodIn_sub (fun _ h => List.mem_cons_of_mem _ (List.mem_append_right _ h)) (by decide +kernel))) (goodIn_sub (fun _ h => List.mem_cons_of_mem _ (List.mem_append_left _ (List.mem_append_right _ h))) (by decide +kernel))
set_option maxRecDepth 20000 in
theorem gL_isDay_X5_user : GoodIn wsL_isDay (wsV RL 41 RX5 yX5_user wsX5_user) := goodIn_app (goodIn_of _ (by decide +kernel)) ggL_isDay_X5_user
set_option maxRecDepth 20000 in
theorem ggL_isDay_L_bits : GoodIn wsL_isDay wsL_bits := goodIn_r _ [138] (by decide +kernel) (by decide +kernel)
set_option maxRecDepth 20000 in
theorem gL_isDay_L_bits : GoodIn wsL_isDay (va_wsS RL 72 yL_bits wsL_bits) := goodIn_app (goodIn_of _ (by decide +kernel)) ggL_isDay_L_bits
set_option maxRecDepth 20000 in
theorem ggL_isDay_X5_missing : GoodIn wsL_isDay wsX5_missing := goodIn_ca (goodIn_ca (goodIn_r _ [142, 6, 143, 144, 145, 4, 146, 120, 121, 122, 123, 124, 125, 126, 127, 128, 129, 147, 148, 149, 7, 8, 9, 10, 11, 12, 13, 14, 150, 80, 81, 18, 82, 23, 83, 84, 85, 86, 30, 87, 88, 37, 89, 33, 34, 35, 36, 90, 91, 92, 93, 20, 94, 25, 95, 96, 97, 98, 99, 100, 101, 102, 103, 104, 105, 106, 107, 108, 109, 110, 111, 112, 113, 114, 115, 212, 213, 214, 215, 216, 217, 218, 219, 225, 226, 227, 228, 229, 230, 231, 220, 221, 222, 223, 224, 232, 233, 234, 235, 236, 237] (by decide +kernel) (by decide +kernel)) (goodIn_sub (fun _ h => List.mem_cons_of_mem _ (List.mem_append_right _ h)) (by decide +kernel))) (goodIn_sub (fun _ h => List.mem_cons_of_mem _ (List.mem_append_left _ (List.mem_append_right _ h))) (by decide +kernel))
set_option maxRecDepth 20000 in
theorem gL_isDay_X5_missing : GoodIn wsL_isDay (wsV RL 66 RX5 yX5_missing wsX5_missing) := goodIn_app (goodIn_of _ (by decide +kernel)) ggL_isDay_X5_missing
set_option maxRecDepth 20000 in
theorem ggL_isDay_L_isUser : GoodIn wsL_isDay wsL_isUser := goodIn_ca (goodIn_ca (goodIn_r _ [153, 154, 155, 156, 4, 157, 6, 120, 143, 144, 145, 146, 121, 122, 123, 124, 125, 126, 127, 128, 129, 147, 148, 149, 7, 8, 9, 10, 11, 12, 13, 14, 158, 85, 86, 30, 87, 88, 37, 89, 33, 34, 35, 36, 1, 2, 3, 5, 15, 16, 17, 18, 19, 20, 21, 22, 23, 24, 25, 26, 27, 28, 29, 31, 32, 38, 39, 40, 41, 42, 43, 44, 45, 46, 47, 48, 49, 50, 51, 52, 53, 54, 55, 56, 57, 58, 59, 60, 61, 62, 63, 64, 65, 66, 67, 68, 69, 70, 71, 72, 73, 74, 75, 76, 77, 78, 79, 80, 81, 82, 83, 84, 90, 91, 92, 93, 94, 95, 96, 97, 98, 99, 100, 101, 102, 103, 104, 105, 106, 107, 108, 109, 110, 111, 112, 113, 114, 115, 159, 160, 161, 162, 163, 164, 165, 166, 167, 168, 169, 116, 117, 118, 119, 130, 131, 132, 133, 134, 170, 171, 172, 173, 174, 175, 176, 177, 178, 179, 180, 181, 182, 183, 184, 139, 140, 141, 142, 150, 185, 186, 187, 188, 189, 212, 213, 214, 215, 216, 217, 218, 219, 225, 226, 227, 228, 229, 230, 231, 220, 221, 222, 223, 224, 232, 233, 234, 235, 236, 237] (by decide +kernel) (by decide +kernel)) (goodIn_sub (fun _ h => List.mem_cons_of_mem _ (List.mem_append_right _ h)) (by decide +kernel))) (goodIn_sub (fun _ h => List.mem_cons_of_mem _ (List.mem_append_left _ (List.mem_append_right _ h))) (by decide +kernel))
set_option maxRecDepth 20000 in
theorem gL_isDay_L_isUser : GoodIn wsL_isDay (va_wsS RL 75 yL_isUser wsL_isUser) := goodIn_app (goodIn_of _ (by decide +kernel)) ggL_isDay_L_isUser
set_option maxRecDepth 20000 in
theorem ggL_isDay_X5_share : GoodIn wsL_isDay wsX5_share := goodIn_ca (goodIn_r _ [193, 6, 120, 147, 148, 4, 149, 7, 8, 9, 10, 11, 12, 13, 14, 194, 39, 40, 30, 41, 32, 42, 43, 44, 45, 46, 47, 48, 49, 195, 196, 197, 18, 198, 23, 24, 79, 80, 81, 82, 83, 84, 85, 86, 87, 88, 37, 89, 33, 34, 35, 36, 90, 91, 92, 93, 20, 94, 25, 95, 96, 97, 98, 99, 100, 101, 102, 103, 104, 105, 106, 107, 108, 109, 110, 111, 112, 113, 114, 115, 199, 212, 213, 214, 215, 216, 217, 218, 219, 225, 226, 227, 228, 229, 230, 231, 220, 221, 222, 223, 224, 232, 233, 234, 235, 236, 237] (by decide +kernel) (by decide +kernel)) (goodIn_sub (fun _ h => List.mem_cons_of_mem _ (List.mem_append_left _ (List.mem_append_right _ h))) (by decide +kernel))
set_option maxRecDepth 20000 in
theorem gL_isDay_X5_share : GoodIn wsL_isDay (wsV RL 79 RX5 yX5_share wsX5_share) := goodIn_app (goodIn_of _ (by decide +kernel)) ggL_isDay_X5_share
set_option maxRecDepth 20000 in
theorem ggL_isDay_X5_shimsNeeded : GoodIn wsL_isDay wsX5_shimsNeeded := goodIn_ca (goodIn_r _ [203, 6, 147, 148, 4, 149, 7, 8, 9, 10, 11, 12, 13, 14, 204, 205, 206, 18, 207, 20, 21, 95, 96, 97, 98, 99, 100, 101, 208, 209, 210, 211, 23, 24, 84, 85, 86, 30, 87, 88, 37, 89, 33, 34, 35, 36, 79, 80, 81, 82, 83, 90, 91, 92, 93, 94, 25, 102, 103, 104, 105, 106, 107, 108, 109, 110, 111, 112, 113, 114, 115, 199, 44, 45, 46, 47, 48, 49, 212, 213, 214, 215, 216, 217, 218, 219, 220, 221, 222, 223, 224, 225, 226, 227, 228, 229, 230, 231, 232, 233, 234, 235, 236, 237] (by decide +kernel) (by decide +kernel)) (goodIn_sub (fun _ h => List.mem_cons_of_mem _ (List.mem_append_left _ (List.mem_append_right _ h))) (by decide +kernel))
set_option maxRecDepth 20000 in
theorem gL_isDay_X5_shimsNeeded : GoodIn wsL_isDay (wsV RL 83 RX5 yX5_shimsNeeded wsX5_shimsNeeded) := goodIn_app (goodIn_of _ (by decide +kernel)) ggL_isDay_X5_shimsNeeded
set_option maxRecDepth 20000 in
theorem ggL_isDay_X5_stranded : GoodIn wsL_isDay wsX5_stranded := goodIn_ca (goodIn_r _ [188, 6, 147, 148, 4, 149, 7, 8, 9, 10, 11, 12, 13, 14, 189, 76, 77, 18, 78, 23, 24, 79, 80, 81, 82, 83, 84, 85, 86, 30, 87, 88, 37, 89, 33, 34, 35, 36, 90, 91, 92, 93, 20, 94, 25, 95, 96, 97, 98, 99, 100, 101, 102, 103, 104, 105, 106, 107, 108, 109, 110, 111, 112, 113, 114, 115, 212, 213, 214, 215, 216, 217, 218, 219, 225, 226, 227, 228, 229, 230, 231, 220, 221, 222, 223, 224, 232, 233, 234, 235, 236, 237] (by decide +kernel) (by decide +kernel)) (goodIn_sub (fun _ h => List.mem_cons_of_mem _ (List.mem_append_left _ (List.mem_append_right _ h))) (by decide +kernel))
set_option maxRecDepth 20000 in
theorem gL_isDay_X5_stranded : GoodIn wsL_isDay (wsV RL 69 RX5 yX5_stranded wsX5_stranded) := goodIn_app (goodIn_of _ (by decide +kernel)) ggL_isDay_X5_stranded
theorem dL_isDay_0 : decode cL_isDay 0 = .ok (.iconst 0, 1) := by decide +kernel
theorem dL_isDay_1 : decode cL_isDay 1 = .ok (.istore_n 2, 1) := by decide +kernel
theorem dL_isDay_2 : decode cL_isDay 2 = .ok (.iconst 0, 1) := by decide +kernel
theorem dL_isDay_3 : decode cL_isDay 3 = .ok (.istore_n 3, 1) := by decide +kernel
theorem dL_isDay_4 : decode cL_isDay 4 = .ok (.iconst 1, 1) := by decide +kernel
theorem dL_isDay_5 : decode cL_isDay 5 = .ok (.istore 4, 2) := by decide +kernel
theorem dL_isDay_7 : decode cL_isDay 7 = .ok (.iconst 0, 1) := by decide +kernel
theorem dL_isDay_8 : decode cL_isDay 8 = .ok (.istore 5, 2) := by decide +kernel
theorem dL_isDay_10 : decode cL_isDay 10 = .ok (.iload 5, 2) := by decide +kernel
theorem dL_isDay_12 : decode cL_isDay 12 = .ok (.aload_n 0, 1) := by decide +kernel
theorem dL_isDay_13 : decode cL_isDay 13 = .ok (.iconst 2, 1) := by decide +kernel
theorem dL_isDay_14 : decode cL_isDay 14 = .ok (.invokevirtual 9, 3) := by decide +kernel
theorem dL_isDay_17 : decode cL_isDay 17 = .ok (.if_icmp .ge 57, 3) := by decide +kernel
theorem dL_isDay_20 : decode cL_isDay 20 = .ok (.iload_n 2, 1) := by decide +kernel
theorem dL_isDay_21 : decode cL_isDay 21 = .ok (.aload_n 0, 1) := by decide +kernel
theorem dL_isDay_22 : decode cL_isDay 22 = .ok (.iload 5, 2) := by decide +kernel
theorem dL_isDay_24 : decode cL_isDay 24 = .ok (.iconst 1, 1) := by decide +kernel
theorem dL_isDay_25 : decode cL_isDay 25 = .ok (.invokevirtual 41, 3) := by decide +kernel
theorem dL_isDay_28 : decode cL_isDay 28 = .ok (.invokestatic 72, 3) := by decide +kernel
theorem dL_isDay_31 : decode cL_isDay 31 = .ok (.iadd, 1) := by decide +kernel
theorem dL_isDay_32 : decode cL_isDay 32 = .ok (.istore_n 2, 1) := by decide +kernel
theorem dL_isDay_33 : decode cL_isDay 33 = .ok (.iload_n 3, 1) := by decide +kernel
theorem dL_isDay_34 : decode cL_isDay 34 = .ok (.aload_n 0, 1) := by decide +kernel
theorem dL_isDay_35 : decode cL_isDay 35 = .ok (.iload 5, 2) := by decide +kernel
theorem dL_isDay_37 : decode cL_isDay 37 = .ok (.iload_n 1, 1) := by decide +kernel
theorem dL_isDay_38 : decode cL_isDay 38 = .ok (.invokevirtual 66, 3) := by decide +kernel
theorem dL_isDay_41 : decode cL_isDay 41 = .ok (.invokestatic 72, 3) := by decide +kernel
theorem dL_isDay_44 : decode cL_isDay 44 = .ok (.iadd, 1) := by decide +kernel
theorem dL_isDay_45 : decode cL_isDay 45 = .ok (.istore_n 3, 1) := by decide +kernel
theorem dL_isDay_46 : decode cL_isDay 46 = .ok (.iload 4, 2) := by decide +kernel
theorem dL_isDay_48 : decode cL_isDay 48 = .ok (.ifCond .eq 17, 3) := by decide +kernel
theorem dL_isDay_51 : decode cL_isDay 51 = .ok (.aload_n 0, 1) := by decide +kernel
theorem dL_isDay_52 : decode cL_isDay 52 = .ok (.iload 5, 2) := by decide +kernel
theorem dL_isDay_54 : decode cL_isDay 54 = .ok (.iload_n 1, 1) := by decide +kernel
theorem dL_isDay_55 : decode cL_isDay 55 = .ok (.invokestatic 75, 3) := by decide +kernel
theorem dL_isDay_58 : decode cL_isDay 58 = .ok (.ifCond .eq 7, 3) := by decide +kernel
theorem dL_isDay_61 : decode cL_isDay 61 = .ok (.iconst 1, 1) := by decide +kernel
theorem dL_isDay_62 : decode cL_isDay 62 = .ok (.goto 4, 3) := by decide +kernel
theorem dL_isDay_65 : decode cL_isDay 65 = .ok (.iconst 0, 1) := by decide +kernel
theorem dL_isDay_66 : decode cL_isDay 66 = .ok (.istore 4, 2) := by decide +kernel
theorem dL_isDay_68 : decode cL_isDay 68 = .ok (.iinc 5 1, 3) := by decide +kernel
theorem dL_isDay_71 : decode cL_isDay 71 = .ok (.goto (-61), 3) := by decide +kernel
theorem dL_isDay_74 : decode cL_isDay 74 = .ok (.iload_n 2, 1) := by decide +kernel
theorem dL_isDay_75 : decode cL_isDay 75 = .ok (.ifCond .ne 7, 3) := by decide +kernel
theorem dL_isDay_78 : decode cL_isDay 78 = .ok (.dconst 1, 1) := by decide +kernel
theorem dL_isDay_79 : decode cL_isDay 79 = .ok (.goto 10, 3) := by decide +kernel
theorem dL_isDay_82 : decode cL_isDay 82 = .ok (.iload_n 2, 1) := by decide +kernel
theorem dL_isDay_83 : decode cL_isDay 83 = .ok (.iload_n 3, 1) := by decide +kernel
theorem dL_isDay_84 : decode cL_isDay 84 = .ok (.isub, 1) := by decide +kernel
theorem dL_isDay_85 : decode cL_isDay 85 = .ok (.i2d, 1) := by decide +kernel
theorem dL_isDay_86 : decode cL_isDay 86 = .ok (.iload_n 2, 1) := by decide +kernel
theorem dL_isDay_87 : decode cL_isDay 87 = .ok (.i2d, 1) := by decide +kernel
theorem dL_isDay_88 : decode cL_isDay 88 = .ok (.ddiv, 1) := by decide +kernel
theorem dL_isDay_89 : decode cL_isDay 89 = .ok (.dstore 5, 2) := by decide +kernel
theorem dL_isDay_91 : decode cL_isDay 91 = .ok (.iload 4, 2) := by decide +kernel
theorem dL_isDay_93 : decode cL_isDay 93 = .ok (.ifCond .eq 48, 3) := by decide +kernel
theorem dL_isDay_96 : decode cL_isDay 96 = .ok (.aload_n 0, 1) := by decide +kernel
theorem dL_isDay_97 : decode cL_isDay 97 = .ok (.iconst 5, 1) := by decide +kernel
theorem dL_isDay_98 : decode cL_isDay 98 = .ok (.invokevirtual 9, 3) := by decide +kernel
theorem dL_isDay_101 : decode cL_isDay 101 = .ok (.iload_n 2, 1) := by decide +kernel
theorem dL_isDay_102 : decode cL_isDay 102 = .ok (.if_icmp .ne 39, 3) := by decide +kernel
theorem dL_isDay_105 : decode cL_isDay 105 = .ok (.aload_n 0, 1) := by decide +kernel
theorem dL_isDay_106 : decode cL_isDay 106 = .ok (.iload_n 1, 1) := by decide +kernel
theorem dL_isDay_107 : decode cL_isDay 107 = .ok (.invokevirtual 79, 3) := by decide +kernel
theorem dL_isDay_110 : decode cL_isDay 110 = .ok (.dload 5, 2) := by decide +kernel
theorem dL_isDay_112 : decode cL_isDay 112 = .ok (.dcmp .l, 1) := by decide +kernel
theorem dL_isDay_113 : decode cL_isDay 113 = .ok (.ifCond .ne 28, 3) := by decide +kernel
theorem dL_isDay_116 : decode cL_isDay 116 = .ok (.aload_n 0, 1) := by decide +kernel
theorem dL_isDay_117 : decode cL_isDay 117 = .ok (.iload_n 1, 1) := by decide +kernel
theorem dL_isDay_118 : decode cL_isDay 118 = .ok (.invokevirtual 83, 3) := by decide +kernel
theorem dL_isDay_121 : decode cL_isDay 121 = .ok (.iload_n 3, 1) := by decide +kernel
theorem dL_isDay_122 : decode cL_isDay 122 = .ok (.if_icmp .gt 19, 3) := by decide +kernel
theorem dL_isDay_125 : decode cL_isDay 125 = .ok (.iload_n 3, 1) := by decide +kernel
theorem dL_isDay_126 : decode cL_isDay 126 = .ok (.ifCond .gt 11, 3) := by decide +kernel
theorem dL_isDay_129 : decode cL_isDay 129 = .ok (.aload_n 0, 1) := by decide +kernel
theorem dL_isDay_130 : decode cL_isDay 130 = .ok (.iload_n 1, 1) := by decide +kernel
theorem dL_isDay_131 : decode cL_isDay 131 = .ok (.invokevirtual 69, 3) := by decide +kernel
theorem dL_isDay_134 : decode cL_isDay 134 = .ok (.ifCond .ne 7, 3) := by decide +kernel
theorem dL_isDay_137 : decode cL_isDay 137 = .ok (.iconst 1, 1) := by decide +kernel
theorem dL_isDay_138 : decode cL_isDay 138 = .ok (.goto 4, 3) := by decide +kernel
theorem dL_isDay_141 : decode cL_isDay 141 = .ok (.iconst 0, 1) := by decide +kernel
theorem dL_isDay_142 : decode cL_isDay 142 = .ok (.ireturn, 1) := by decide +kernel
set_option maxRecDepth 20000 in
theorem ggL_isFirst_X5_firstStranded : GoodIn wsL_isFirst wsX5_firstStranded := goodIn_ca (goodIn_ca (goodIn_r _ [5, 6, 7, 8, 9, 4, 10, 11, 12, 13, 14, 15, 16, 17, 18, 19, 20, 21, 22, 23, 24, 25, 26, 27, 28, 29, 30, 31, 32, 33, 34, 35, 36, 37, 38, 39, 40, 41, 42, 43, 44, 45, 46, 47, 48, 49, 50, 51, 52, 53, 54, 55, 56, 57, 58, 59, 60, 61, 62, 63, 64, 65, 66, 67, 68, 69, 70, 71, 72, 73, 74, 75, 76, 77, 78, 79, 80, 81, 82, 83, 84, 85, 86, 87, 88, 89, 90, 91, 92, 93, 94, 95, 96, 97, 98, 99, 100, 101, 107, 108, 109, 110, 111, 112, 113, 114, 115, 116, 117, 118, 119, 120, 121, 122, 123, 124, 125, 126, 127, 128, 129, 130, 131, 132] (by decide +kernel) (by decide +kernel)) (goodIn_sub (fun _ h => List.mem_cons_of_mem _ (List.mem_append_left _ (List.mem_append_right _ h))) (by decide +kernel))) (goodIn_sub (fun _ h => List.mem_cons_of_mem _ (List.mem_append_right _ h)) (by decide +kernel))
set_option maxRecDepth 20000 in
theorem gL_isFirst_X5_firstStranded : GoodIn wsL_isFirst (wsV RL 86 RX5 yX5_firstStranded wsX5_firstStranded) := goodIn_app (goodIn_of _ (by decide +kernel)) ggL_isFirst_X5_firstStranded
set_option maxRecDepth 20000 in
theorem ggL_isFirst_X5_missing : GoodIn wsL_isFirst wsX5_missing := goodIn_ca (goodIn_ca (goodIn_r _ [105, 6, 7, 8, 9, 4, 10, 11, 12, 13, 14, 15, 16, 17, 18, 19, 20, 21, 22, 23, 24, 25, 26, 27, 28, 29, 30, 31, 106, 42, 43, 35, 44, 45, 46, 47, 48, 49, 50, 51, 52, 53, 54, 55, 56, 57, 58, 59, 60, 61, 62, 63, 64, 65, 66, 67, 68, 69, 70, 71, 72, 73, 74, 75, 76, 77, 78, 79, 80, 81, 82, 83, 84, 85, 86, 107, 108, 109, 110, 111, 112, 113, 114, 115, 116, 117, 118, 119, 120, 121, 122, 123, 124, 125, 126, 127, 128, 129, 130, 131, 132] (by decide +kernel) (by decide +kernel)) (goodIn_sub (fun _ h => List.mem_cons_of_mem _ (List.mem_append_left _ (List.mem_append_right _ h))) (by decide +kernel))) (goodIn_sub (fun _ h => List.mem_cons_of_mem _ (List.mem_append_right _ h)) (by decide +kernel))
set_option maxRecDepth 20000 in
theorem gL_isFirst_X5_missing : GoodIn wsL_isFirst (wsV RL 66 RX5 yX5_missing wsX5_missing) := goodIn_app (goodIn_of _ (by decide +kernel)) ggL_isFirst_X5_missing
theorem dL_isFirst_0 : decode cL_isFirst 0 = .ok (.aload_n 0, 1) := by decide +kernel
theorem dL_isFirst_1 : decode cL_isFirst 1 = .ok (.iload_n 1, 1) := by decide +kernel
theorem dL_isFirst_2 : decode cL_isFirst 2 = .ok (.iload_n 2, 1) := by decide +kernel
theorem dL_isFirst_3 : decode cL_isFirst 3 = .ok (.invokevirtual 86, 3) := by decide +kernel
theorem dL_isFirst_6 : decode cL_isFirst 6 = .ok (.istore_n 3, 1) := by decide +kernel
theorem dL_isFirst_7 : decode cL_isFirst 7 = .ok (.iload_n 2, 1) := by decide +kernel
theorem dL_isFirst_8 : decode cL_isFirst 8 = .ok (.istore 4, 2) := by decide +kernel
theorem dL_isFirst_10 : decode cL_isFirst 10 = .ok (.iload 4, 2) := by decide +kernel
theorem dL_isFirst_12 : decode cL_isFirst 12 = .ok (.iload_n 2, 1) := by decide +kernel
theorem dL_isFirst_13 : decode cL_isFirst 13 = .ok (.bipush 20, 2) := by decide +kernel
theorem dL_isFirst_15 : decode cL_isFirst 15 = .ok (.iadd, 1) := by decide +kernel
theorem dL_isFirst_16 : decode cL_isFirst 16 = .ok (.if_icmp .ge 39, 3) := by decide +kernel
theorem dL_isFirst_19 : decode cL_isFirst 19 = .ok (.iload 4, 2) := by decide +kernel
theorem dL_isFirst_21 : decode cL_isFirst 21 = .ok (.sipush 1000, 3) := by decide +kernel
theorem dL_isFirst_24 : decode cL_isFirst 24 = .ok (.if_icmp .ge 31, 3) := by decide +kernel
theorem dL_isFirst_27 : decode cL_isFirst 27 = .ok (.aload_n 0, 1) := by decide +kernel
theorem dL_isFirst_28 : decode cL_isFirst 28 = .ok (.iload_n 1, 1) := by decide +kernel
theorem dL_isFirst_29 : decode cL_isFirst 29 = .ok (.iload 4, 2) := by decide +kernel
theorem dL_isFirst_31 : decode cL_isFirst 31 = .ok (.invokevirtual 66, 3) := by decide +kernel
theorem dL_isFirst_34 : decode cL_isFirst 34 = .ok (.ifCond .eq 15, 3) := by decide +kernel
theorem dL_isFirst_37 : decode cL_isFirst 37 = .ok (.iload_n 3, 1) := by decide +kernel
theorem dL_isFirst_38 : decode cL_isFirst 38 = .ok (.iload 4, 2) := by decide +kernel
theorem dL_isFirst_40 : decode cL_isFirst 40 = .ok (.if_icmp .ne 7, 3) := by decide +kernel
theorem dL_isFirst_43 : decode cL_isFirst 43 = .ok (.iconst 1, 1) := by decide +kernel
theorem dL_isFirst_44 : decode cL_isFirst 44 = .ok (.goto 4, 3) := by decide +kernel
theorem dL_isFirst_47 : decode cL_isFirst 47 = .ok (.iconst 0, 1) := by decide +kernel
theorem dL_isFirst_48 : decode cL_isFirst 48 = .ok (.ireturn, 1) := by decide +kernel
theorem dL_isFirst_49 : decode cL_isFirst 49 = .ok (.iinc 4 1, 3) := by decide +kernel
theorem dL_isFirst_52 : decode cL_isFirst 52 = .ok (.goto (-42), 3) := by decide +kernel
theorem dL_isFirst_55 : decode cL_isFirst 55 = .ok (.iload_n 3, 1) := by decide +kernel
theorem dL_isFirst_56 : decode cL_isFirst 56 = .ok (.iconst (-1), 1) := by decide +kernel
theorem dL_isFirst_57 : decode cL_isFirst 57 = .ok (.if_icmp .eq 20, 3) := by decide +kernel
theorem dL_isFirst_60 : decode cL_isFirst 60 = .ok (.iload_n 3, 1) := by decide +kernel
theorem dL_isFirst_61 : decode cL_isFirst 61 = .ok (.iload_n 2, 1) := by decide +kernel
theorem dL_isFirst_62 : decode cL_isFirst 62 = .ok (.bipush 20, 2) := by decide +kernel
theorem dL_isFirst_64 : decode cL_isFirst 64 = .ok (.iadd, 1) := by decide +kernel
theorem dL_isFirst_65 : decode cL_isFirst 65 = .ok (.if_icmp .lt 16, 3) := by decide +kernel
theorem dL_isFirst_68 : decode cL_isFirst 68 = .ok (.aload_n 0, 1) := by decide +kernel
theorem dL_isFirst_69 : decode cL_isFirst 69 = .ok (.iload_n 1, 1) := by decide +kernel
theorem dL_isFirst_70 : decode cL_isFirst 70 = .ok (.iload_n 3, 1) := by decide +kernel
theorem dL_isFirst_71 : decode cL_isFirst 71 = .ok (.invokevirtual 66, 3) := by decide +kernel
theorem dL_isFirst_74 : decode cL_isFirst 74 = .ok (.ifCond .eq 7, 3) := by decide +kernel
theorem dL_isFirst_77 : decode cL_isFirst 77 = .ok (.iconst 1, 1) := by decide +kernel
theorem dL_isFirst_78 : decode cL_isFirst 78 = .ok (.goto 4, 3) := by decide +kernel
theorem dL_isFirst_81 : decode cL_isFirst 81 = .ok (.iconst 0, 1) := by decide +kernel
theorem dL_isFirst_82 : decode cL_isFirst 82 = .ok (.ireturn, 1) := by decide +kernel
