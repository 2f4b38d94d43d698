set_option maxRecDepth 100000 in
theorem wsL_law_r1_in : ∀ w ∈ wsL_law_r1, w ∈ lw_tbl := fun w h => (goodIn_p wsL_law_r1 [59, 62] (by decide +kernel) (by decide +kernel) w h).1
set_option maxRecDepth 100000 in
theorem wsL_law_r2_in : ∀ w ∈ wsL_law_r2, w ∈ lw_tbl := fun w h => (goodIn_p wsL_law_r2 [67, 92, 114] (by decide +kernel) (by decide +kernel) w h).1
set_option maxRecDepth 100000 in
theorem wsL_law_r3_in : ∀ w ∈ wsL_law_r3, w ∈ lw_tbl := fun w h => (goodIn_p wsL_law_r3 [134, 515] (by decide +kernel) (by decide +kernel) w h).1
set_option maxRecDepth 100000 in
theorem wsL_law_r4_in : ∀ w ∈ wsL_law_r4, w ∈ lw_tbl := fun w h => (goodIn_p wsL_law_r4 [175, 178, 181, 185, 189] (by decide +kernel) (by decide +kernel) w h).1
set_option maxRecDepth 100000 in
theorem wsL_law_r5_in : ∀ w ∈ wsL_law_r5, w ∈ lw_tbl := fun w h => (goodIn_p wsL_law_r5 [193, 197, 201, 204, 208, 211, 214] (by decide +kernel) (by decide +kernel) w h).1
set_option maxRecDepth 100000 in
theorem wsL_law_r6_in : ∀ w ∈ wsL_law_r6, w ∈ lw_tbl := fun w h => (goodIn_p wsL_law_r6 [596, 599, 603, 607] (by decide +kernel) (by decide +kernel) w h).1
set_option maxRecDepth 100000 in
theorem wsL_law_r7_in : ∀ w ∈ wsL_law_r7, w ∈ lw_tbl := fun w h => (goodIn_p wsL_law_r7 [612, 616, 619, 623, 627, 631, 635] (by decide +kernel) (by decide +kernel) w h).1
set_option maxRecDepth 100000 in
theorem wsL_law_r8_in : ∀ w ∈ wsL_law_r8, w ∈ lw_tbl := fun w h => (goodIn_p wsL_law_r8 [218, 222, 226, 230, 233] (by decide +kernel) (by decide +kernel) w h).1
set_option maxRecDepth 100000 in
theorem wsL_law_r9_in : ∀ w ∈ wsL_law_r9, w ∈ lw_tbl := fun w h => (goodIn_p wsL_law_r9 [640, 644, 648, 652, 237, 241] (by decide +kernel) (by decide +kernel) w h).1
set_option maxRecDepth 100000 in
theorem wsL_law_r10_in : ∀ w ∈ wsL_law_r10, w ∈ lw_tbl := fun w h => (goodIn_p wsL_law_r10 [656, 245, 249, 661, 253, 257] (by decide +kernel) (by decide +kernel) w h).1
set_option maxRecDepth 100000 in
theorem wsL_law_r11_in : ∀ w ∈ wsL_law_r11, w ∈ lw_tbl := fun w h => (goodIn_p wsL_law_r11 [260, 264, 268, 665, 669, 672, 676] (by decide +kernel) (by decide +kernel) w h).1
set_option maxRecDepth 100000 in
theorem wsL_law_r12_in : ∀ w ∈ wsL_law_r12, w ∈ lw_tbl := fun w h => (goodIn_p wsL_law_r12 [680, 683, 686, 272, 276, 280] (by decide +kernel) (by decide +kernel) w h).1
set_option maxRecDepth 100000 in
theorem wsL_law_r13_in : ∀ w ∈ wsL_law_r13, w ∈ lw_tbl := fun w h => (goodIn_p wsL_law_r13 [287, 291, 296, 690, 694] (by decide +kernel) (by decide +kernel) w h).1
set_option maxRecDepth 100000 in
theorem wsL_law_r14_in : ∀ w ∈ wsL_law_r14, w ∈ lw_tbl := fun w h => (goodIn_p wsL_law_r14 [698, 702, 706, 710, 301, 304] (by decide +kernel) (by decide +kernel) w h).1
set_option maxRecDepth 100000 in
theorem wsL_law_r15_in : ∀ w ∈ wsL_law_r15, w ∈ lw_tbl := fun w h => (goodIn_p wsL_law_r15 [307, 311, 315, 319, 323] (by decide +kernel) (by decide +kernel) w h).1
set_option maxRecDepth 100000 in
theorem wsL_law_r16_in : ∀ w ∈ wsL_law_r16, w ∈ lw_tbl := fun w h => (goodIn_p wsL_law_r16 [330, 337, 341, 345, 348] (by decide +kernel) (by decide +kernel) w h).1
set_option maxRecDepth 100000 in
theorem wsL_law_r17_in : ∀ w ∈ wsL_law_r17, w ∈ lw_tbl := fun w h => (goodIn_p wsL_law_r17 [352, 356, 360, 714, 722] (by decide +kernel) (by decide +kernel) w h).1
set_option maxRecDepth 100000 in
theorem wsL_law_r18_in : ∀ w ∈ wsL_law_r18, w ∈ lw_tbl := fun w h => (goodIn_p wsL_law_r18 [726, 730, 734, 738, 742] (by decide +kernel) (by decide +kernel) w h).1
set_option maxRecDepth 100000 in
theorem wsL_law_r19_in : ∀ w ∈ wsL_law_r19, w ∈ lw_tbl := fun w h => (goodIn_p wsL_law_r19 [746, 365, 750, 370, 375, 754] (by decide +kernel) (by decide +kernel) w h).1
set_option maxRecDepth 100000 in
theorem wsL_law_r20_in : ∀ w ∈ wsL_law_r20, w ∈ lw_tbl := fun w h => (goodIn_p wsL_law_r20 [758, 380, 384, 762, 388] (by decide +kernel) (by decide +kernel) w h).1
set_option maxRecDepth 100000 in
theorem wsL_law_r21_in : ∀ w ∈ wsL_law_r21, w ∈ lw_tbl := fun w h => (goodIn_p wsL_law_r21 [766, 392, 396, 400, 770, 774] (by decide +kernel) (by decide +kernel) w h).1
set_option maxRecDepth 100000 in
theorem wsL_law_r22_in : ∀ w ∈ wsL_law_r22, w ∈ lw_tbl := fun w h => (goodIn_p wsL_law_r22 [405, 778, 409, 782, 413, 417] (by decide +kernel) (by decide +kernel) w h).1
set_option maxRecDepth 100000 in
theorem wsL_law_r23_in : ∀ w ∈ wsL_law_r23, w ∈ lw_tbl := fun w h => (goodIn_p wsL_law_r23 [786, 789, 793, 421, 425, 797] (by decide +kernel) (by decide +kernel) w h).1
set_option maxRecDepth 100000 in
theorem wsL_law_r24_in : ∀ w ∈ wsL_law_r24, w ∈ lw_tbl := fun w h => (goodIn_p wsL_law_r24 [429, 434, 801, 438, 442, 446] (by decide +kernel) (by decide +kernel) w h).1
set_option maxRecDepth 100000 in
theorem wsL_law_r25_in : ∀ w ∈ wsL_law_r25, w ∈ lw_tbl := fun w h => (goodIn_p wsL_law_r25 [449, 805, 809, 453, 813, 817] (by decide +kernel) (by decide +kernel) w h).1
set_option maxRecDepth 100000 in
theorem wsL_law_r26_in : ∀ w ∈ wsL_law_r26, w ∈ lw_tbl := fun w h => (goodIn_p wsL_law_r26 [457, 821, 462, 466, 470, 474] (by decide +kernel) (by decide +kernel) w h).1
set_option maxRecDepth 100000 in
theorem wsL_law_r27_in : ∀ w ∈ wsL_law_r27, w ∈ lw_tbl := fun w h => (goodIn_p wsL_law_r27 [478, 825, 829, 482, 486, 490] (by decide +kernel) (by decide +kernel) w h).1
set_option maxRecDepth 100000 in
theorem wsL_law_r28_in : ∀ w ∈ wsL_law_r28, w ∈ lw_tbl := fun w h => (goodIn_p wsL_law_r28 [833, 494, 837, 498, 841, 502] (by decide +kernel) (by decide +kernel) w h).1
set_option maxRecDepth 100000 in
theorem wsL_law_r29_in : ∀ w ∈ wsL_law_r29, w ∈ lw_tbl := fun w h => (goodIn_p wsL_law_r29 [845, 506, 510, 849, 853] (by decide +kernel) (by decide +kernel) w h).1
set_option maxRecDepth 100000 in
theorem wsX40_in : ∀ w ∈ wsX40, w ∈ lw_tbl := by decide +kernel
set_option maxRecDepth 100000 in
theorem wsX50_in : ∀ w ∈ wsX50, w ∈ lw_tbl := by decide +kernel
set_option maxRecDepth 100000 in
theorem wsX00_in : ∀ w ∈ wsX00, w ∈ lw_tbl := by decide +kernel
set_option maxRecDepth 100000 in
theorem wsX30_in : ∀ w ∈ wsX30, w ∈ lw_tbl := by decide +kernel
set_option maxRecDepth 100000 in
theorem wsX10_in : ∀ w ∈ wsX10, w ∈ lw_tbl := by decide +kernel
set_option maxRecDepth 100000 in
theorem wsX20_in : ∀ w ∈ wsX20, w ∈ lw_tbl := by decide +kernel
theorem app_in {a b c : List Cond} (ha : ∀ w ∈ a, w ∈ c) (hb : ∀ w ∈ b, w ∈ c) : ∀ w ∈ a ++ b, w ∈ c := fun w h => (List.mem_append.mp h).elim (ha w) (hb w)
theorem wsL_law_in : ∀ w ∈ wsL_law, w ∈ lw_tbl := (app_in (app_in (app_in (app_in (app_in (app_in (app_in (app_in wsL_law_r1_in (app_in wsL_law_r2_in (app_in wsL_law_r3_in (app_in wsL_law_r4_in (app_in wsL_law_r5_in (app_in wsL_law_r6_in (app_in wsL_law_r7_in (app_in wsL_law_r8_in (app_in wsL_law_r9_in (app_in wsL_law_r10_in (app_in wsL_law_r11_in (app_in wsL_law_r12_in (app_in wsL_law_r13_in (app_in wsL_law_r14_in (app_in wsL_law_r15_in (app_in wsL_law_r16_in (app_in wsL_law_r17_in (app_in wsL_law_r18_in (app_in wsL_law_r19_in (app_in wsL_law_r20_in (app_in wsL_law_r21_in (app_in wsL_law_r22_in (app_in wsL_law_r23_in (app_in wsL_law_r24_in (app_in wsL_law_r25_in (app_in wsL_law_r26_in (app_in wsL_law_r27_in (app_in wsL_law_r28_in wsL_law_r29_in)))))))))))))))))))))))))))) wsX40_in) wsX50_in) wsX00_in) wsX30_in) wsX10_in) wsX20_in) (fun _ h => absurd h List.not_mem_nil))

theorem inlX0 : ∀ w ∈ wsX00, w ∈ wsL_law := fun _ h => List.mem_append_left _ (List.mem_append_left _ (List.mem_append_left _ (List.mem_append_left _ (List.mem_append_right _ h))))
theorem inX0 : ∀ w ∈ wsX00, w ∈ lw_tbl := fun w h => wsL_law_in w (inlX0 w h)
theorem inlX1 : ∀ w ∈ wsX10, w ∈ wsL_law := fun _ h => List.mem_append_left _ (List.mem_append_left _ (List.mem_append_right _ h))
theorem inX1 : ∀ w ∈ wsX10, w ∈ lw_tbl := fun w h => wsL_law_in w (inlX1 w h)
theorem inlX2 : ∀ w ∈ wsX20, w ∈ wsL_law := fun _ h => List.mem_append_left _ (List.mem_append_right _ h)
theorem inX2 : ∀ w ∈ wsX20, w ∈ lw_tbl := fun w h => wsL_law_in w (inlX2 w h)
theorem inlX3 : ∀ w ∈ wsX30, w ∈ wsL_law := fun _ h => List.mem_append_left _ (List.mem_append_left _ (List.mem_append_left _ (List.mem_append_right _ h)))
theorem inX3 : ∀ w ∈ wsX30, w ∈ lw_tbl := fun w h => wsL_law_in w (inlX3 w h)
theorem inlX4 : ∀ w ∈ wsX40, w ∈ wsL_law := fun _ h => List.mem_append_left _ (List.mem_append_left _ (List.mem_append_left _ (List.mem_append_left _ (List.mem_append_left _ (List.mem_append_left _ (List.mem_append_right _ h))))))
theorem inX4 : ∀ w ∈ wsX40, w ∈ lw_tbl := fun w h => wsL_law_in w (inlX4 w h)
theorem inlX5 : ∀ w ∈ wsX50, w ∈ wsL_law := fun _ h => List.mem_append_left _ (List.mem_append_left _ (List.mem_append_left _ (List.mem_append_left _ (List.mem_append_left _ (List.mem_append_right _ h)))))
theorem inX5 : ∀ w ∈ wsX50, w ∈ lw_tbl := fun w h => wsL_law_in w (inlX5 w h)
theorem inJ9 : ∀ w ∈ wsJ90, w ∈ lw_tbl := by decide +kernel
theorem inJ10 : ∀ w ∈ wsJ100, w ∈ lw_tbl := by decide +kernel
