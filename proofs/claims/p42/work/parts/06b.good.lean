theorem goodIn_cc {big a : List Cond} {c : Cond} (hc : GoodIn big [c]) (ha : GoodIn big a) : GoodIn big (c :: a) := fun w h => (List.mem_cons.mp h).elim (fun e => hc w (by rw [e]; exact List.mem_cons_self)) (ha w)
theorem goodIn_1 {big : List Cond} {w : Cond} (p : Nat) (h : big[p]? = some w) (g : goodWord w = true) : GoodIn big [w] := fun v hv => by
  rw [List.mem_singleton.mp hv]
  exact ⟨List.mem_of_getElem? h, good_of_word g⟩
theorem goodIn_tr {a b c : List Cond} (h1 : GoodIn a b) (h2 : GoodIn b c) : GoodIn a c := fun w h => ⟨(h1 w (h2 w h).1).1, (h2 w h).2⟩
set_option maxRecDepth 20000 in
theorem gc_build_act_c : GoodIn wsL_build [.code yL_act cL_act 16 (some .boolean)] := goodIn_cc (goodIn_1 25 rfl (by decide +kernel)) ((fun _ h => absurd h List.not_mem_nil))
set_option maxRecDepth 20000 in
theorem gc_build_act_r1 : GoodIn wsL_build wsL_act_r1 := goodIn_r _ [26, 27, 28, 29, 30, 31, 32, 33, 34, 35, 36, 37, 38, 39, 40, 41, 19, 20, 16, 21, 22, 42, 43, 44] (by decide +kernel) (by decide +kernel)
set_option maxRecDepth 20000 in
theorem gc_build_act_r2 : GoodIn wsL_build wsL_act_r2 := goodIn_r _ [7, 8, 45, 46, 47, 48, 49, 50, 51, 52, 53, 54, 55, 56, 57, 58, 59, 60, 61, 62, 63, 64, 65, 66] (by decide +kernel) (by decide +kernel)
set_option maxRecDepth 20000 in
theorem gc_build_act_r3 : GoodIn wsL_build wsL_act_r3 := goodIn_r _ [67, 68, 69, 70, 71, 72, 73, 74, 75, 76, 77, 78, 79, 80, 81, 82, 83, 84, 85, 86, 87, 88, 89, 90] (by decide +kernel) (by decide +kernel)
set_option maxRecDepth 20000 in
theorem gc_build_act_r4 : GoodIn wsL_build wsL_act_r4 := goodIn_r _ [91, 92, 93, 94, 95, 96, 97, 98, 99, 100, 101, 102, 103, 104, 105, 106, 107, 108, 109, 110, 111, 112, 113, 114] (by decide +kernel) (by decide +kernel)
set_option maxRecDepth 20000 in
theorem gc_build_act_r5 : GoodIn wsL_build wsL_act_r5 := goodIn_r _ [115, 116, 117, 118, 119, 120, 121, 122, 123, 124, 125, 126, 127, 128, 129, 130, 131, 132, 133, 134, 135, 136, 137, 138] (by decide +kernel) (by decide +kernel)
set_option maxRecDepth 20000 in
theorem gc_build_act_r6 : GoodIn wsL_build wsL_act_r6 := goodIn_r _ [139, 140, 141, 142, 143, 144, 145, 146, 147, 148, 149, 150, 151, 152, 153, 154, 155, 156, 157, 158, 159, 160, 161, 162] (by decide +kernel) (by decide +kernel)
set_option maxRecDepth 20000 in
theorem gc_build_act_r7 : GoodIn wsL_build wsL_act_r7 := goodIn_r _ [163, 164, 165, 3, 166, 167, 168, 169, 170, 171, 172, 173, 174, 175, 176, 177, 178, 179, 180, 181, 182, 183, 184, 185] (by decide +kernel) (by decide +kernel)
set_option maxRecDepth 20000 in
theorem gc_build_act_r8 : GoodIn wsL_build wsL_act_r8 := goodIn_r _ [186, 187, 188, 189, 190, 191, 192, 193, 194, 195, 196, 197, 198, 199, 200, 201, 202, 10, 12, 203, 13, 204, 205, 206] (by decide +kernel) (by decide +kernel)
set_option maxRecDepth 20000 in
theorem gc_build_act_r9 : GoodIn wsL_build wsL_act_r9 := goodIn_r _ [207, 208, 209, 210, 211, 212, 213, 214, 215, 216, 217, 218, 219, 220, 221, 222, 223, 224, 225, 226, 227, 228, 229, 230] (by decide +kernel) (by decide +kernel)
set_option maxRecDepth 20000 in
theorem gc_build_act_r10 : GoodIn wsL_build wsL_act_r10 := goodIn_r _ [231, 232, 233, 234, 235, 236, 237, 238, 239, 240, 241, 242, 243, 244, 245, 246, 247, 248, 249, 250, 251, 252, 253, 254] (by decide +kernel) (by decide +kernel)
set_option maxRecDepth 20000 in
theorem gc_build_act_r11 : GoodIn wsL_build wsL_act_r11 := goodIn_r _ [255, 256, 257, 258, 259, 260, 261, 262, 263, 264, 265, 266, 267, 268, 269, 270, 271, 272, 273, 274, 275, 276, 277, 278] (by decide +kernel) (by decide +kernel)
set_option maxRecDepth 20000 in
theorem gc_build_act_r12 : GoodIn wsL_build wsL_act_r12 := goodIn_r _ [279, 280, 281, 282, 283, 284, 285, 286] (by decide +kernel) (by decide +kernel)
set_option maxRecDepth 20000 in
theorem gc_build_act_x4 : GoodIn wsL_build wsX40 := goodIn_r _ [287, 288, 289, 290, 291, 292, 293] (by decide +kernel) (by decide +kernel)
set_option maxRecDepth 20000 in
theorem gc_build_act_x3 : GoodIn wsL_build wsX30 := goodIn_r _ [294, 295, 296, 297, 298, 299, 300, 301, 302, 303, 304] (by decide +kernel) (by decide +kernel)
set_option maxRecDepth 20000 in
theorem gc_build_act_x2 : GoodIn wsL_build wsX20 := goodIn_r _ [305, 306] (by decide +kernel) (by decide +kernel)
set_option maxRecDepth 20000 in
theorem gc_build_act_x1 : GoodIn wsL_build wsX10 := goodIn_r _ [307, 308, 309, 310, 311, 312, 313, 314, 315] (by decide +kernel) (by decide +kernel)
set_option maxRecDepth 20000 in
theorem gc_build_act_x0 : GoodIn wsL_build wsX00 := goodIn_r _ [316, 317, 318, 319, 320, 321, 322, 323, 324, 325, 326] (by decide +kernel) (by decide +kernel)
theorem ggL_build_L_act : GoodIn wsL_build wsL_act := goodIn_ca (goodIn_ca (goodIn_ca (goodIn_cc gc_build_act_c (goodIn_app (goodIn_app (goodIn_app (goodIn_app (goodIn_app (goodIn_app gc_build_act_r1 (goodIn_app gc_build_act_r2 (goodIn_app gc_build_act_r3 (goodIn_app gc_build_act_r4 (goodIn_app gc_build_act_r5 (goodIn_app gc_build_act_r6 (goodIn_app gc_build_act_r7 (goodIn_app gc_build_act_r8 (goodIn_app gc_build_act_r9 (goodIn_app gc_build_act_r10 (goodIn_app gc_build_act_r11 (gc_build_act_r12)))))))))))) gc_build_act_x4) gc_build_act_x3) gc_build_act_x2) gc_build_act_x1) gc_build_act_x0)) (goodIn_sub (fun _ h => List.mem_cons_of_mem _ (List.mem_append_left _ (List.mem_append_left _ (List.mem_append_right _ h)))) (by decide +kernel))) (goodIn_sub (fun _ h => List.mem_cons_of_mem _ (List.mem_append_left _ (List.mem_append_right _ h))) (by decide +kernel))) (goodIn_sub (fun _ h => List.mem_cons_of_mem _ (List.mem_append_right _ h)) (by decide +kernel))
set_option maxRecDepth 20000 in
theorem gc_law_build_c : GoodIn wsL_law [.code yL_build cL_build 5 (some (.object "HillBeaconsLaw$Sim"))] := goodIn_r _ [35] (by decide +kernel) (by decide +kernel)
set_option maxRecDepth 20000 in
theorem gc_law_build_r1 : GoodIn wsL_law wsL_build_r1 := goodIn_r _ [36, 37, 38, 39, 40, 41, 9, 10, 42, 43, 44, 3, 45, 46, 47, 34, 48, 49, 50, 51, 52, 53, 54, 55] (by decide +kernel) (by decide +kernel)
set_option maxRecDepth 20000 in
theorem gc_law_build_r2 : GoodIn wsL_law wsL_build_r2 := goodIn_cc (goodIn_1 56 rfl (by decide +kernel)) (goodIn_cc (goodIn_1 57 (by decide +kernel) (by decide +kernel)) (goodIn_cc (goodIn_1 58 (by decide +kernel) (by decide +kernel)) (goodIn_cc (goodIn_1 59 (by decide +kernel) (by decide +kernel)) (goodIn_cc (goodIn_1 60 (by decide +kernel) (by decide +kernel)) (goodIn_cc (goodIn_1 61 (by decide +kernel) (by decide +kernel)) (goodIn_cc (goodIn_1 62 (by decide +kernel) (by decide +kernel)) (goodIn_cc (goodIn_1 63 (by decide +kernel) (by decide +kernel)) (goodIn_cc (goodIn_1 64 (by decide +kernel) (by decide +kernel)) (goodIn_cc (goodIn_1 65 (by decide +kernel) (by decide +kernel)) (goodIn_cc (goodIn_1 66 (by decide +kernel) (by decide +kernel)) (goodIn_cc (goodIn_1 67 (by decide +kernel) (by decide +kernel)) (goodIn_cc (goodIn_1 68 (by decide +kernel) (by decide +kernel)) (goodIn_cc (goodIn_1 69 (by decide +kernel) (by decide +kernel)) (goodIn_cc (goodIn_1 70 (by decide +kernel) (by decide +kernel)) (goodIn_cc (goodIn_1 71 (by decide +kernel) (by decide +kernel)) (goodIn_cc (goodIn_1 72 (by decide +kernel) (by decide +kernel)) (goodIn_cc (goodIn_1 73 (by decide +kernel) (by decide +kernel)) (goodIn_cc (goodIn_1 74 rfl (by decide +kernel)) (goodIn_cc (goodIn_1 75 (by decide +kernel) (by decide +kernel)) (goodIn_cc (goodIn_1 76 (by decide +kernel) (by decide +kernel)) (goodIn_cc (goodIn_1 77 (by decide +kernel) (by decide +kernel)) (goodIn_cc (goodIn_1 78 (by decide +kernel) (by decide +kernel)) (goodIn_cc (goodIn_1 79 (by decide +kernel) (by decide +kernel)) ((fun _ h => absurd h List.not_mem_nil)))))))))))))))))))))))))
set_option maxRecDepth 20000 in
theorem gc_law_build_r3 : GoodIn wsL_law wsL_build_r3 := goodIn_r _ [2, 80, 81, 82, 14, 83, 84, 85, 86, 87, 88, 89, 90, 91, 13, 92, 93, 94, 95, 96, 97, 98, 99, 100] (by decide +kernel) (by decide +kernel)
set_option maxRecDepth 20000 in
theorem gc_law_build_r4 : GoodIn wsL_law wsL_build_r4 := goodIn_r _ [21, 24, 101, 102, 103, 104, 105, 106, 107, 108, 109, 110, 111, 112, 113, 114, 25, 115, 116, 117, 118, 119, 120, 121] (by decide +kernel) (by decide +kernel)
set_option maxRecDepth 20000 in
theorem gc_law_build_r5 : GoodIn wsL_law wsL_build_r5 := goodIn_r _ [122, 123, 124, 125, 126, 127, 128, 129, 130, 131, 132, 133, 134, 135, 136, 137, 138, 139, 140, 141, 142, 143, 144, 145] (by decide +kernel) (by decide +kernel)
set_option maxRecDepth 20000 in
theorem gc_law_build_r6 : GoodIn wsL_law wsL_build_r6 := goodIn_r _ [146, 147, 148, 149, 150, 151, 152, 153, 154, 155, 156, 157, 158, 159, 160, 161, 162, 163, 164, 23, 165, 29, 166, 167] (by decide +kernel) (by decide +kernel)
set_option maxRecDepth 20000 in
theorem gc_law_build_r7 : GoodIn wsL_law wsL_build_r7 := goodIn_r _ [168, 169, 170, 171, 172, 173, 174, 175, 176, 177, 178, 179, 180, 181, 182, 183, 184, 31, 185, 186, 187, 188, 189, 190] (by decide +kernel) (by decide +kernel)
set_option maxRecDepth 20000 in
theorem gc_law_build_r8 : GoodIn wsL_law wsL_build_r8 := goodIn_r _ [191, 192, 193, 194, 195, 196, 197, 198, 199, 200, 201, 202, 203, 204, 205, 206, 207, 208, 209, 210, 211, 212, 213, 214] (by decide +kernel) (by decide +kernel)
set_option maxRecDepth 20000 in
theorem gc_law_build_r9 : GoodIn wsL_law wsL_build_r9 := goodIn_r _ [215, 216, 217, 218, 219, 220, 221, 222, 223, 224, 225, 226, 227, 228, 229, 230, 231, 232, 233, 234, 235, 236, 237, 238] (by decide +kernel) (by decide +kernel)
set_option maxRecDepth 20000 in
theorem gc_law_build_r10 : GoodIn wsL_law wsL_build_r10 := goodIn_r _ [239, 240, 241, 242, 243, 244, 245, 246, 247, 248, 249, 250, 251, 252, 253, 254, 255, 256, 257, 258, 259, 260, 261, 262] (by decide +kernel) (by decide +kernel)
set_option maxRecDepth 20000 in
theorem gc_law_build_r11 : GoodIn wsL_law wsL_build_r11 := goodIn_r _ [263, 264, 265, 266, 267, 268, 269, 270, 271, 272, 273, 274, 275, 276, 277, 278, 279, 280, 281, 282, 283, 284, 285, 286] (by decide +kernel) (by decide +kernel)
set_option maxRecDepth 20000 in
theorem gc_law_build_r12 : GoodIn wsL_law wsL_build_r12 := goodIn_r _ [287, 288, 289, 290, 291, 292, 293, 294, 295, 296, 297, 298, 299, 300, 301, 302, 303, 304, 305, 306, 307, 308] (by decide +kernel) (by decide +kernel)
set_option maxRecDepth 20000 in
theorem gc_law_build_x4 : GoodIn wsL_law wsX40 := goodIn_r _ [482, 483, 484, 485, 486, 487, 488] (by decide +kernel) (by decide +kernel)
set_option maxRecDepth 20000 in
theorem gc_law_build_x3 : GoodIn wsL_law wsX30 := goodIn_r _ [489, 490, 491, 492, 493, 494, 495, 496, 497, 498, 499] (by decide +kernel) (by decide +kernel)
set_option maxRecDepth 20000 in
theorem gc_law_build_x2 : GoodIn wsL_law wsX20 := goodIn_r _ [460, 461] (by decide +kernel) (by decide +kernel)
set_option maxRecDepth 20000 in
theorem gc_law_build_x1 : GoodIn wsL_law wsX10 := goodIn_r _ [462, 463, 464, 465, 466, 467, 468, 469, 470] (by decide +kernel) (by decide +kernel)
set_option maxRecDepth 20000 in
theorem gc_law_build_x0 : GoodIn wsL_law wsX00 := goodIn_r _ [471, 472, 473, 474, 475, 476, 477, 478, 479, 480, 481] (by decide +kernel) (by decide +kernel)
theorem ggL_law_L_build : GoodIn wsL_law wsL_build := goodIn_ca (goodIn_ca (goodIn_ca (goodIn_cc gc_law_build_c (goodIn_app (goodIn_app (goodIn_app (goodIn_app (goodIn_app (goodIn_app gc_law_build_r1 (goodIn_app gc_law_build_r2 (goodIn_app gc_law_build_r3 (goodIn_app gc_law_build_r4 (goodIn_app gc_law_build_r5 (goodIn_app gc_law_build_r6 (goodIn_app gc_law_build_r7 (goodIn_app gc_law_build_r8 (goodIn_app gc_law_build_r9 (goodIn_app gc_law_build_r10 (goodIn_app gc_law_build_r11 (gc_law_build_r12)))))))))))) gc_law_build_x4) gc_law_build_x3) gc_law_build_x2) gc_law_build_x1) gc_law_build_x0)) (goodIn_sub (fun _ h => List.mem_append_left _ (List.mem_append_left _ (List.mem_append_right _ h))) (by decide +kernel))) (goodIn_sub (fun _ h => List.mem_append_left _ (List.mem_append_right _ h)) (by decide +kernel))) (goodIn_sub (fun _ h => List.mem_append_right _ h) (by decide +kernel))
theorem ggL_law_L_act : GoodIn wsL_law wsL_act := goodIn_tr ggL_law_L_build ggL_build_L_act
