set_option maxRecDepth 20000 in
theorem lin_r19 : ∀ w ∈ wsL_law_r19, w ∈ lw_tbl := fun w h => (goodIn_p wsL_law_r19 [585, 588, 344, 348, 592, 596] (by decide +kernel) (by decide +kernel) w h).1
set_option maxRecDepth 20000 in
theorem lin_r20 : ∀ w ∈ wsL_law_r20, w ∈ lw_tbl := fun w h => (goodIn_p wsL_law_r20 [354, 359, 365, 600, 369, 373] (by decide +kernel) (by decide +kernel) w h).1
set_option maxRecDepth 20000 in
theorem lin_r21 : ∀ w ∈ wsL_law_r21, w ∈ lw_tbl := fun w h => (goodIn_p wsL_law_r21 [605, 379, 609, 383, 613] (by decide +kernel) (by decide +kernel) w h).1
set_option maxRecDepth 20000 in
theorem lin_X20 : ∀ w ∈ wsX20, w ∈ lw_tbl := fun w h => (goodIn_p wsX20 [] (by decide +kernel) (by decide +kernel) w h).1
set_option maxRecDepth 20000 in
theorem lin_X30 : ∀ w ∈ wsX30, w ∈ lw_tbl := fun w h => (goodIn_p wsX30 [] (by decide +kernel) (by decide +kernel) w h).1
set_option maxRecDepth 20000 in
theorem lin_X10 : ∀ w ∈ wsX10, w ∈ lw_tbl := fun w h => (goodIn_p wsX10 [] (by decide +kernel) (by decide +kernel) w h).1
set_option maxRecDepth 20000 in
theorem lin_X00 : ∀ w ∈ wsX00, w ∈ lw_tbl := fun w h => (goodIn_p wsX00 [] (by decide +kernel) (by decide +kernel) w h).1
theorem wsL_in : ∀ w ∈ wsL_law, w ∈ lw_tbl := List.forall_mem_append.mpr ⟨List.forall_mem_append.mpr ⟨List.forall_mem_append.mpr ⟨List.forall_mem_append.mpr ⟨List.forall_mem_append.mpr ⟨List.forall_mem_append.mpr ⟨lin_r1, List.forall_mem_append.mpr ⟨lin_r2, List.forall_mem_append.mpr ⟨lin_r3, List.forall_mem_append.mpr ⟨lin_r4, List.forall_mem_append.mpr ⟨lin_r5, List.forall_mem_append.mpr ⟨lin_r6, List.forall_mem_append.mpr ⟨lin_r7, List.forall_mem_append.mpr ⟨lin_r8, List.forall_mem_append.mpr ⟨lin_r9, List.forall_mem_append.mpr ⟨lin_r10, List.forall_mem_append.mpr ⟨lin_r11, List.forall_mem_append.mpr ⟨lin_r12, List.forall_mem_append.mpr ⟨lin_r13, List.forall_mem_append.mpr ⟨lin_r14, List.forall_mem_append.mpr ⟨lin_r15, List.forall_mem_append.mpr ⟨lin_r16, List.forall_mem_append.mpr ⟨lin_r17, List.forall_mem_append.mpr ⟨lin_r18, List.forall_mem_append.mpr ⟨lin_r19, List.forall_mem_append.mpr ⟨lin_r20, lin_r21⟩⟩⟩⟩⟩⟩⟩⟩⟩⟩⟩⟩⟩⟩⟩⟩⟩⟩⟩⟩, lin_X20⟩, lin_X30⟩, lin_X10⟩, lin_X00⟩, fun _ h => absurd h List.not_mem_nil⟩
