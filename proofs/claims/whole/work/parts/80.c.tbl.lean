set_option maxRecDepth 100000 in
theorem lt_wsL_law_r24 : ∀ w ∈ wsL_law_r24, w ∈ lw_tbl := fun w h => (goodIn_p wsL_law_r24 [662, 1062, 1066, 1070, 669] (by decide +kernel) (by decide +kernel) w h).1
set_option maxRecDepth 100000 in
theorem lt_wsL_law_r25 : ∀ w ∈ wsL_law_r25, w ∈ lw_tbl := fun w h => (goodIn_p wsL_law_r25 [673, 677, 681, 686] (by decide +kernel) (by decide +kernel) w h).1
set_option maxRecDepth 100000 in
theorem lt_wsL_law_r26 : ∀ w ∈ wsL_law_r26, w ∈ lw_tbl := fun w h => (goodIn_p wsL_law_r26 [694, 699, 702, 705, 708] (by decide +kernel) (by decide +kernel) w h).1
set_option maxRecDepth 100000 in
theorem lt_wsL_law_r27 : ∀ w ∈ wsL_law_r27, w ∈ lw_tbl := fun w h => (goodIn_p wsL_law_r27 [1074, 1078, 1081, 1085, 1089, 712, 715] (by decide +kernel) (by decide +kernel) w h).1
set_option maxRecDepth 100000 in
theorem lt_wsL_law_r28 : ∀ w ∈ wsL_law_r28, w ∈ lw_tbl := fun w h => (goodIn_p wsL_law_r28 [1093, 723, 727, 731, 1097] (by decide +kernel) (by decide +kernel) w h).1
set_option maxRecDepth 100000 in
theorem lt_wsL_law_r29 : ∀ w ∈ wsL_law_r29, w ∈ lw_tbl := fun w h => (goodIn_p wsL_law_r29 [735, 739, 743, 1101, 1105] (by decide +kernel) (by decide +kernel) w h).1
set_option maxRecDepth 100000 in
theorem lt_wsL_law_r30 : ∀ w ∈ wsL_law_r30, w ∈ lw_tbl := fun w h => (goodIn_p wsL_law_r30 [747, 751, 1109, 1113, 755, 759] (by decide +kernel) (by decide +kernel) w h).1
set_option maxRecDepth 100000 in
theorem lt_wsL_law_r31 : ∀ w ∈ wsL_law_r31, w ∈ lw_tbl := fun w h => (goodIn_p wsL_law_r31 [763, 768, 772, 777, 781] (by decide +kernel) (by decide +kernel) w h).1
set_option maxRecDepth 100000 in
theorem lt_wsL_law_r32 : ∀ w ∈ wsL_law_r32, w ∈ lw_tbl := fun w h => (goodIn_p wsL_law_r32 [1117, 1121, 1125, 785, 1129] (by decide +kernel) (by decide +kernel) w h).1
set_option maxRecDepth 100000 in
theorem lt_wsL_law_r33 : ∀ w ∈ wsL_law_r33, w ∈ lw_tbl := fun w h => (goodIn_p wsL_law_r33 [789, 792, 797, 801, 805, 809] (by decide +kernel) (by decide +kernel) w h).1
set_option maxRecDepth 100000 in
theorem lt_wsL_law_r34 : ∀ w ∈ wsL_law_r34, w ∈ lw_tbl := fun w h => (goodIn_p wsL_law_r34 [1133, 814, 1137] (by decide +kernel) (by decide +kernel) w h).1
set_option maxRecDepth 100000 in
theorem lt_wsL_law_r35 : ∀ w ∈ wsL_law_r35, w ∈ lw_tbl := fun w h => (goodIn_p wsL_law_r35 [1141] (by decide +kernel) (by decide +kernel) w h).1
set_option maxRecDepth 100000 in
theorem lt_wsX90 : ∀ w ∈ wsX90, w ∈ lw_tbl := fun w h => (goodIn_p wsX90 [] (by decide +kernel) (by decide +kernel) w h).1
set_option maxRecDepth 100000 in
theorem lt_wsX100 : ∀ w ∈ wsX100, w ∈ lw_tbl := fun w h => (goodIn_p wsX100 [] (by decide +kernel) (by decide +kernel) w h).1
set_option maxRecDepth 100000 in
theorem lt_wsJx4a65c0 : ∀ w ∈ wsJx4a65c0, w ∈ lw_tbl := fun w h => (goodIn_p wsJx4a65c0 [] (by decide +kernel) (by decide +kernel) w h).1
set_option maxRecDepth 100000 in
theorem lt_wsX70 : ∀ w ∈ wsX70, w ∈ lw_tbl := fun w h => (goodIn_p wsX70 [] (by decide +kernel) (by decide +kernel) w h).1
set_option maxRecDepth 100000 in
theorem lt_wsX10 : ∀ w ∈ wsX10, w ∈ lw_tbl := fun w h => (goodIn_p wsX10 [] (by decide +kernel) (by decide +kernel) w h).1
set_option maxRecDepth 100000 in
theorem lt_wsX30 : ∀ w ∈ wsX30, w ∈ lw_tbl := fun w h => (goodIn_p wsX30 [] (by decide +kernel) (by decide +kernel) w h).1
set_option maxRecDepth 100000 in
theorem lt_wsX20 : ∀ w ∈ wsX20, w ∈ lw_tbl := fun w h => (goodIn_p wsX20 [] (by decide +kernel) (by decide +kernel) w h).1
set_option maxRecDepth 100000 in
theorem lt_wsX40 : ∀ w ∈ wsX40, w ∈ lw_tbl := fun w h => (goodIn_p wsX40 [] (by decide +kernel) (by decide +kernel) w h).1
set_option maxRecDepth 100000 in
theorem lt_wsX80 : ∀ w ∈ wsX80, w ∈ lw_tbl := fun w h => (goodIn_p wsX80 [] (by decide +kernel) (by decide +kernel) w h).1
set_option maxRecDepth 100000 in
theorem lt_wsX50 : ∀ w ∈ wsX50, w ∈ lw_tbl := fun w h => (goodIn_p wsX50 [] (by decide +kernel) (by decide +kernel) w h).1
set_option maxRecDepth 100000 in
theorem lt_wsX00 : ∀ w ∈ wsX00, w ∈ lw_tbl := fun w h => (goodIn_p wsX00 [] (by decide +kernel) (by decide +kernel) w h).1
set_option maxRecDepth 100000 in
theorem lt_wsX60 : ∀ w ∈ wsX60, w ∈ lw_tbl := fun w h => (goodIn_p wsX60 [] (by decide +kernel) (by decide +kernel) w h).1
theorem BG_in : ∀ w ∈ BG, w ∈ lw_tbl := (List.forall_mem_append.mpr ⟨(List.forall_mem_append.mpr ⟨(List.forall_mem_append.mpr ⟨(List.forall_mem_append.mpr ⟨(List.forall_mem_append.mpr ⟨(List.forall_mem_append.mpr ⟨(List.forall_mem_append.mpr ⟨(List.forall_mem_append.mpr ⟨(List.forall_mem_append.mpr ⟨(List.forall_mem_append.mpr ⟨(List.forall_mem_append.mpr ⟨(List.forall_mem_append.mpr ⟨(List.forall_mem_append.mpr ⟨(List.forall_mem_append.mpr ⟨lt_wsL_law_r1, (List.forall_mem_append.mpr ⟨lt_wsL_law_r2, (List.forall_mem_append.mpr ⟨lt_wsL_law_r3, (List.forall_mem_append.mpr ⟨lt_wsL_law_r4, (List.forall_mem_append.mpr ⟨lt_wsL_law_r5, (List.forall_mem_append.mpr ⟨lt_wsL_law_r6, (List.forall_mem_append.mpr ⟨lt_wsL_law_r7, (List.forall_mem_append.mpr ⟨lt_wsL_law_r8, (List.forall_mem_append.mpr ⟨lt_wsL_law_r9, (List.forall_mem_append.mpr ⟨lt_wsL_law_r10, (List.forall_mem_append.mpr ⟨lt_wsL_law_r11, (List.forall_mem_append.mpr ⟨lt_wsL_law_r12, (List.forall_mem_append.mpr ⟨lt_wsL_law_r13, (List.forall_mem_append.mpr ⟨lt_wsL_law_r14, (List.forall_mem_append.mpr ⟨lt_wsL_law_r15, (List.forall_mem_append.mpr ⟨lt_wsL_law_r16, (List.forall_mem_append.mpr ⟨lt_wsL_law_r17, (List.forall_mem_append.mpr ⟨lt_wsL_law_r18, (List.forall_mem_append.mpr ⟨lt_wsL_law_r19, (List.forall_mem_append.mpr ⟨lt_wsL_law_r20, (List.forall_mem_append.mpr ⟨lt_wsL_law_r21, (List.forall_mem_append.mpr ⟨lt_wsL_law_r22, (List.forall_mem_append.mpr ⟨lt_wsL_law_r23, (List.forall_mem_append.mpr ⟨lt_wsL_law_r24, (List.forall_mem_append.mpr ⟨lt_wsL_law_r25, (List.forall_mem_append.mpr ⟨lt_wsL_law_r26, (List.forall_mem_append.mpr ⟨lt_wsL_law_r27, (List.forall_mem_append.mpr ⟨lt_wsL_law_r28, (List.forall_mem_append.mpr ⟨lt_wsL_law_r29, (List.forall_mem_append.mpr ⟨lt_wsL_law_r30, (List.forall_mem_append.mpr ⟨lt_wsL_law_r31, (List.forall_mem_append.mpr ⟨lt_wsL_law_r32, (List.forall_mem_append.mpr ⟨lt_wsL_law_r33, (List.forall_mem_append.mpr ⟨lt_wsL_law_r34, lt_wsL_law_r35⟩)⟩)⟩)⟩)⟩)⟩)⟩)⟩)⟩)⟩)⟩)⟩)⟩)⟩)⟩)⟩)⟩)⟩)⟩)⟩)⟩)⟩)⟩)⟩)⟩)⟩)⟩)⟩)⟩)⟩)⟩)⟩)⟩)⟩), lt_wsX90⟩), lt_wsX100⟩), lt_wsJx4a65c0⟩), lt_wsX70⟩), lt_wsX10⟩), lt_wsX30⟩), lt_wsX20⟩), lt_wsX40⟩), lt_wsX80⟩), lt_wsX50⟩), lt_wsX00⟩), lt_wsX60⟩), (fun _ h => absurd h List.not_mem_nil)⟩)
