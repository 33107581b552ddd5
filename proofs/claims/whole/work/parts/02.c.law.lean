set_option maxRecDepth 20000 in
theorem in0_wsL_law0_r16 : ∀ w ∈ wsL_law0_r16, w ∈ lw_tbl := fun w h => (goodIn_p wsL_law0_r16 [732, 481, 486, 736] (by decide +kernel) (by decide +kernel) w h).1
set_option maxRecDepth 20000 in
theorem in0_wsL_law0_r17 : ∀ w ∈ wsL_law0_r17, w ∈ lw_tbl := fun w h => (goodIn_p wsL_law0_r17 [493, 740, 502, 151] (by decide +kernel) (by decide +kernel) w h).1
set_option maxRecDepth 20000 in
theorem in0_wsL_law0_r18 : ∀ w ∈ wsL_law0_r18, w ∈ lw_tbl := fun w h => (goodIn_p wsL_law0_r18 [127, 744, 748, 752, 511, 137] (by decide +kernel) (by decide +kernel) w h).1
set_option maxRecDepth 20000 in
theorem in0_wsL_law0_r19 : ∀ w ∈ wsL_law0_r19, w ∈ lw_tbl := fun w h => (goodIn_p wsL_law0_r19 [756, 760, 519, 764] (by decide +kernel) (by decide +kernel) w h).1
set_option maxRecDepth 20000 in
theorem in0_wsL_law0_r20 : ∀ w ∈ wsL_law0_r20, w ∈ lw_tbl := fun w h => (goodIn_p wsL_law0_r20 [526, 530, 768, 537, 541, 544] (by decide +kernel) (by decide +kernel) w h).1
set_option maxRecDepth 20000 in
theorem in0_wsL_law0_r21 : ∀ w ∈ wsL_law0_r21, w ∈ lw_tbl := fun w h => (goodIn_p wsL_law0_r21 [772, 551, 555, 559, 777] (by decide +kernel) (by decide +kernel) w h).1
set_option maxRecDepth 20000 in
theorem in0_wsL_law0_r22 : ∀ w ∈ wsL_law0_r22, w ∈ lw_tbl := fun w h => (goodIn_p wsL_law0_r22 [566, 570, 575, 781] (by decide +kernel) (by decide +kernel) w h).1
set_option maxRecDepth 20000 in
theorem in0_wsL_law0_r23 : ∀ w ∈ wsL_law0_r23, w ∈ lw_tbl := fun w h => (goodIn_p wsL_law0_r23 [119, 785, 131, 141, 146] (by decide +kernel) (by decide +kernel) w h).1
set_option maxRecDepth 20000 in
theorem in0_wsL_law0_r24 : ∀ w ∈ wsL_law0_r24, w ∈ lw_tbl := fun w h => (goodIn_p wsL_law0_r24 [789] (by decide +kernel) (by decide +kernel) w h).1
set_option maxRecDepth 20000 in
theorem in0_wsX40 : ∀ w ∈ wsX40, w ∈ lw_tbl := fun w h => (goodIn_p wsX40 [] (by decide +kernel) (by decide +kernel) w h).1
set_option maxRecDepth 20000 in
theorem in0_wsX50 : ∀ w ∈ wsX50, w ∈ lw_tbl := fun w h => (goodIn_p wsX50 [] (by decide +kernel) (by decide +kernel) w h).1
set_option maxRecDepth 20000 in
theorem in0_wsX20 : ∀ w ∈ wsX20, w ∈ lw_tbl := fun w h => (goodIn_p wsX20 [] (by decide +kernel) (by decide +kernel) w h).1
set_option maxRecDepth 20000 in
theorem in0_wsX30 : ∀ w ∈ wsX30, w ∈ lw_tbl := fun w h => (goodIn_p wsX30 [] (by decide +kernel) (by decide +kernel) w h).1
set_option maxRecDepth 20000 in
theorem in0_wsX10 : ∀ w ∈ wsX10, w ∈ lw_tbl := fun w h => (goodIn_p wsX10 [] (by decide +kernel) (by decide +kernel) w h).1
set_option maxRecDepth 20000 in
theorem in0_wsX00 : ∀ w ∈ wsX00, w ∈ lw_tbl := fun w h => (goodIn_p wsX00 [] (by decide +kernel) (by decide +kernel) w h).1
theorem wsL_law_in0 : ∀ w ∈ wsL_law0, w ∈ lw_tbl := fun w h => (List.mem_append.mp h).elim (fun h => (List.mem_append.mp h).elim (fun h => (List.mem_append.mp h).elim (fun h => (List.mem_append.mp h).elim (fun h => (List.mem_append.mp h).elim (fun h => (List.mem_append.mp h).elim (fun h => (List.mem_append.mp h).elim (fun h => (List.mem_append.mp h).elim (fun h => in0_wsL_law0_r1 w h) (fun h => (List.mem_append.mp h).elim (fun h => in0_wsL_law0_r2 w h) (fun h => (List.mem_append.mp h).elim (fun h => in0_wsL_law0_r3 w h) (fun h => (List.mem_append.mp h).elim (fun h => in0_wsL_law0_r4 w h) (fun h => (List.mem_append.mp h).elim (fun h => in0_wsL_law0_r5 w h) (fun h => (List.mem_append.mp h).elim (fun h => in0_wsL_law0_r6 w h) (fun h => (List.mem_append.mp h).elim (fun h => in0_wsL_law0_r7 w h) (fun h => (List.mem_append.mp h).elim (fun h => in0_wsL_law0_r8 w h) (fun h => (List.mem_append.mp h).elim (fun h => in0_wsL_law0_r9 w h) (fun h => (List.mem_append.mp h).elim (fun h => in0_wsL_law0_r10 w h) (fun h => (List.mem_append.mp h).elim (fun h => in0_wsL_law0_r11 w h) (fun h => (List.mem_append.mp h).elim (fun h => in0_wsL_law0_r12 w h) (fun h => (List.mem_append.mp h).elim (fun h => in0_wsL_law0_r13 w h) (fun h => (List.mem_append.mp h).elim (fun h => in0_wsL_law0_r14 w h) (fun h => (List.mem_append.mp h).elim (fun h => in0_wsL_law0_r15 w h) (fun h => (List.mem_append.mp h).elim (fun h => in0_wsL_law0_r16 w h) (fun h => (List.mem_append.mp h).elim (fun h => in0_wsL_law0_r17 w h) (fun h => (List.mem_append.mp h).elim (fun h => in0_wsL_law0_r18 w h) (fun h => (List.mem_append.mp h).elim (fun h => in0_wsL_law0_r19 w h) (fun h => (List.mem_append.mp h).elim (fun h => in0_wsL_law0_r20 w h) (fun h => (List.mem_append.mp h).elim (fun h => in0_wsL_law0_r21 w h) (fun h => (List.mem_append.mp h).elim (fun h => in0_wsL_law0_r22 w h) (fun h => (List.mem_append.mp h).elim (fun h => in0_wsL_law0_r23 w h) (fun h => in0_wsL_law0_r24 w h)))))))))))))))))))))))) (fun h => in0_wsX40 w h)) (fun h => in0_wsX50 w h)) (fun h => in0_wsX20 w h)) (fun h => in0_wsX30 w h)) (fun h => in0_wsX10 w h)) (fun h => in0_wsX00 w h)) (fun h => absurd h List.not_mem_nil)
