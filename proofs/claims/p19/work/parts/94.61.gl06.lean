theorem cm_L_power_q0 : ∀ w ∈ ([.classLink RL 31 "java/lang/IllegalArgumentException", .methodLink RL 78 yX5_power, .instanceMethod yX5_power, .selects RX5 yX5_power yX5_power, .initialized RX5, .code yX5_power cX5_power 2 none, .classLink RX5 175 "java/lang/IllegalArgumentException", .initialized "java/lang/IllegalArgumentException", .fieldLink RX5 39 "CommitTree" "disk" "LCommitTree$Disk;", .fieldLink RX5 243 "CommitTree$Disk" "left" "I"] : List Cond), w ∈ wsL_law := List.forall_mem_cons.mpr ⟨cj_16 _ (List.mem_of_getElem? (i := 19) rfl), List.forall_mem_cons.mpr ⟨cj_29 _ (List.mem_of_getElem? (i := 14) rfl), List.forall_mem_cons.mpr ⟨cj_29 _ (List.mem_of_getElem? (i := 15) rfl), List.forall_mem_cons.mpr ⟨cj_29 _ (List.mem_of_getElem? (i := 16) rfl), List.forall_mem_cons.mpr ⟨cj_1 _ (List.mem_of_getElem? (i := 2) rfl), List.forall_mem_cons.mpr ⟨cj_29 _ (List.mem_of_getElem? (i := 17) rfl), List.forall_mem_cons.mpr ⟨cj_17 _ (List.mem_of_getElem? (i := 6) rfl), List.forall_mem_cons.mpr ⟨cj_17 _ (List.mem_of_getElem? (i := 7) rfl), List.forall_mem_cons.mpr ⟨cj_2 _ (List.mem_of_getElem? (i := 1) rfl), List.forall_mem_cons.mpr ⟨cj_29 _ (List.mem_of_getElem? (i := 18) rfl), fun _ h => absurd h List.not_mem_nil⟩⟩⟩⟩⟩⟩⟩⟩⟩⟩
theorem gm_L_power : ∀ w ∈ wsL_power, w ∈ wsL_law := fun w h => by
  unfold wsL_power at h
  rcases List.mem_cons.mp h with h | h
  · subst h; exact cj_29 _ (List.mem_of_getElem? (i := 13) rfl)
  · rcases List.mem_append.mp h with h | h
    · rcases List.mem_append.mp h with h | h
      · rcases List.mem_append.mp h with h | h
        · exact cm_L_power_q0 w h
        · exact inlX5 w h
      · exact inlX0 w h
    · exact cg_2 w h
set_option maxRecDepth 20000 in
theorem ggL_law_L_power : GoodIn wsL_law wsL_power := goodIn_sub gm_L_power (by decide +kernel)
set_option maxRecDepth 20000 in
theorem gL_law_L_power : GoodIn wsL_law (va_wsS RL 151 yL_power wsL_power) := goodIn_app (goodIn_of _ (by decide +kernel)) ggL_law_L_power
theorem cm_X6_power_q0 : ∀ w ∈ ([.fieldLink RX6 45 "CommitTreeModel" "power" "I", .methodLink RX6 102 yX6_fails, .instanceMethod yX6_fails, .selects RX6 yX6_fails yX6_fails, .initialized RX6, .code yX6_fails cX6_fails 2 (some .boolean), .fieldLink RX6 67 "CommitTreeModel" "code" "I"] : List Cond), w ∈ wsL_law := List.forall_mem_cons.mpr ⟨cj_5 _ (List.mem_of_getElem? (i := 10) rfl), List.forall_mem_cons.mpr ⟨cj_7 _ (List.mem_of_getElem? (i := 6) rfl), List.forall_mem_cons.mpr ⟨cj_7 _ (List.mem_of_getElem? (i := 7) rfl), List.forall_mem_cons.mpr ⟨cj_7 _ (List.mem_of_getElem? (i := 8) rfl), List.forall_mem_cons.mpr ⟨cj_1 _ (List.mem_of_getElem? (i := 5) rfl), List.forall_mem_cons.mpr ⟨cj_7 _ (List.mem_of_getElem? (i := 9) rfl), List.forall_mem_cons.mpr ⟨cj_7 _ (List.mem_of_getElem? (i := 10) rfl), fun _ h => absurd h List.not_mem_nil⟩⟩⟩⟩⟩⟩⟩
theorem gm_X6_power : ∀ w ∈ wsX6_power, w ∈ wsL_law := fun w h => by
  unfold wsX6_power at h
  rcases List.mem_cons.mp h with h | h
  · subst h; exact cj_29 _ (List.mem_of_getElem? (i := 22) rfl)
  · rcases List.mem_append.mp h with h | h
    · exact cm_X6_power_q0 w h
    · exact inlX6 w h
set_option maxRecDepth 20000 in
theorem ggL_law_X6_power : GoodIn wsL_law wsX6_power := goodIn_sub gm_X6_power (by decide +kernel)
set_option maxRecDepth 20000 in
theorem gL_law_X6_power : GoodIn wsL_law (wsV RL 154 RX6 yX6_power wsX6_power) := goodIn_app (goodIn_of _ (by decide +kernel)) ggL_law_X6_power
theorem cm_X6_thrown_q0 : ∀ w ∈ ([.fieldLink RX6 67 "CommitTreeModel" "code" "I"] : List Cond), w ∈ wsL_law := List.forall_mem_cons.mpr ⟨cj_7 _ (List.mem_of_getElem? (i := 10) rfl), fun _ h => absurd h List.not_mem_nil⟩
theorem gm_X6_thrown : ∀ w ∈ wsX6_thrown, w ∈ wsL_law := fun w h => by
  unfold wsX6_thrown at h
  rcases List.mem_cons.mp h with h | h
  · subst h; exact cj_30 _ (List.mem_of_getElem? (i := 2) rfl)
  · rcases List.mem_append.mp h with h | h
    · exact cm_X6_thrown_q0 w h
    · exact inlX6 w h
set_option maxRecDepth 20000 in
theorem ggL_law_X6_thrown : GoodIn wsL_law wsX6_thrown := goodIn_sub gm_X6_thrown (by decide +kernel)
set_option maxRecDepth 20000 in
theorem gL_law_X6_thrown : GoodIn wsL_law (wsV RL 155 RX6 yX6_thrown wsX6_thrown) := goodIn_app (goodIn_of _ (by decide +kernel)) ggL_law_X6_thrown
theorem cm_L_recover_r1 : ∀ w ∈ ([.classLink RL 13 "java/lang/IllegalStateException", .methodLink RL 82 yX5_recover, .instanceMethod yX5_recover, .selects RX5 yX5_recover yX5_recover, .initialized RX5, .code yX5_recover cX5_recover 1 (some .int), .classLink RX5 73 "java/lang/IllegalStateException", .initialized "java/lang/IllegalStateException", .fieldLink RX5 66 "CommitTree" "down" "Z", .fieldLink RX5 70 "CommitTree" "recordCounts" "Z", .fieldLink RX5 63 "CommitTree" "homeBlocks" "I", .methodLink RX5 248 yX5_broughtHome, .instanceMethod yX5_broughtHome, .selects RX5 yX5_broughtHome yX5_broughtHome, .code yX5_broughtHome cX5_broughtHome 1 (some .boolean), .fieldLink RX5 39 "CommitTree" "disk" "LCommitTree$Disk;", .fieldLink RX5 10 "CommitTree" "tree" "LCommitTree$Tree;", .fieldLink RX5 26 "CommitTree" "next" "LCommitTree$Tree;", .methodLink RX5 289 yX0_put, .instanceMethod yX0_put, .selects RX0 yX0_put yX0_put, .initialized RX0, .code yX0_put cX0_put 2 (some .boolean), .fieldLink RX0 15 "CommitTree$Disk" "left" "I"] : List Cond), w ∈ wsL_law := List.forall_mem_cons.mpr ⟨cj_5 _ (List.mem_of_getElem? (i := 21) rfl), List.forall_mem_cons.mpr ⟨cj_30 _ (List.mem_of_getElem? (i := 6) rfl), List.forall_mem_cons.mpr ⟨cj_30 _ (List.mem_of_getElem? (i := 7) rfl), List.forall_mem_cons.mpr ⟨cj_30 _ (List.mem_of_getElem? (i := 8) rfl), List.forall_mem_cons.mpr ⟨cj_1 _ (List.mem_of_getElem? (i := 2) rfl), List.forall_mem_cons.mpr ⟨cj_30 _ (List.mem_of_getElem? (i := 9) rfl), List.forall_mem_cons.mpr ⟨cj_6 _ (List.mem_of_getElem? (i := 3) rfl), List.forall_mem_cons.mpr ⟨cj_6 _ (List.mem_of_getElem? (i := 4) rfl), List.forall_mem_cons.mpr ⟨cj_2 _ (List.mem_of_getElem? (i := 10) rfl), List.forall_mem_cons.mpr ⟨cj_2 _ (List.mem_of_getElem? (i := 11) rfl), List.forall_mem_cons.mpr ⟨cj_2 _ (List.mem_of_getElem? (i := 9) rfl), List.forall_mem_cons.mpr ⟨cj_13 _ (List.mem_of_getElem? (i := 15) rfl), List.forall_mem_cons.mpr ⟨cj_13 _ (List.mem_of_getElem? (i := 16) rfl), List.forall_mem_cons.mpr ⟨cj_13 _ (List.mem_of_getElem? (i := 17) rfl), List.forall_mem_cons.mpr ⟨cj_13 _ (List.mem_of_getElem? (i := 18) rfl), List.forall_mem_cons.mpr ⟨cj_2 _ (List.mem_of_getElem? (i := 1) rfl), List.forall_mem_cons.mpr ⟨cj_1 _ (List.mem_of_getElem? (i := 16) rfl), List.forall_mem_cons.mpr ⟨cj_1 _ (List.mem_of_getElem? (i := 17) rfl), List.forall_mem_cons.mpr ⟨cj_13 _ (List.mem_of_getElem? (i := 7) rfl), List.forall_mem_cons.mpr ⟨cj_13 _ (List.mem_of_getElem? (i := 8) rfl), List.forall_mem_cons.mpr ⟨cj_13 _ (List.mem_of_getElem? (i := 9) rfl), List.forall_mem_cons.mpr ⟨cj_2 _ (List.mem_of_getElem? (i := 0) rfl), List.forall_mem_cons.mpr ⟨cj_13 _ (List.mem_of_getElem? (i := 10) rfl), List.forall_mem_cons.mpr ⟨cj_4 _ (List.mem_of_getElem? (i := 3) rfl), fun _ h => absurd h List.not_mem_nil⟩⟩⟩⟩⟩⟩⟩⟩⟩⟩⟩⟩⟩⟩⟩⟩⟩⟩⟩⟩⟩⟩⟩⟩
theorem cm_L_recover_r2 : ∀ w ∈ ([.fieldLink RX0 9 "CommitTree$Disk" "written" "I", .methodLink RX5 294 yX4_copyFrom, .instanceMethod yX4_copyFrom, .selects RX4 yX4_copyFrom yX4_copyFrom, .initialized RX4, .code yX4_copyFrom cX4_copyFrom 4 none, .fieldLink RX4 17 "CommitTree$Tree" "size" "I", .methodLink RX4 28 yX4_at, .instanceMethod yX4_at, .selects RX4 yX4_at yX4_at, .code yX4_at cX4_at 2 (some (.object "CommitTree$Node")), .fieldLink RX4 11 "CommitTree$Tree" "nodes" "[LCommitTree$Node;", .methodLink RX4 32 yX4_add, .instanceMethod yX4_add, .selects RX4 yX4_add yX4_add, .code yX4_add cX4_add 2 none] : List Cond), w ∈ wsL_law := List.forall_mem_cons.mpr ⟨cj_4 _ (List.mem_of_getElem? (i := 2) rfl), List.forall_mem_cons.mpr ⟨cj_13 _ (List.mem_of_getElem? (i := 19) rfl), List.forall_mem_cons.mpr ⟨cj_6 _ (List.mem_of_getElem? (i := 13) rfl), List.forall_mem_cons.mpr ⟨cj_6 _ (List.mem_of_getElem? (i := 14) rfl), List.forall_mem_cons.mpr ⟨cj_1 _ (List.mem_of_getElem? (i := 15) rfl), List.forall_mem_cons.mpr ⟨cj_6 _ (List.mem_of_getElem? (i := 15) rfl), List.forall_mem_cons.mpr ⟨cj_2 _ (List.mem_of_getElem? (i := 17) rfl), List.forall_mem_cons.mpr ⟨cj_6 _ (List.mem_of_getElem? (i := 16) rfl), List.forall_mem_cons.mpr ⟨cj_6 _ (List.mem_of_getElem? (i := 17) rfl), List.forall_mem_cons.mpr ⟨cj_6 _ (List.mem_of_getElem? (i := 18) rfl), List.forall_mem_cons.mpr ⟨cj_6 _ (List.mem_of_getElem? (i := 19) rfl), List.forall_mem_cons.mpr ⟨cj_2 _ (List.mem_of_getElem? (i := 16) rfl), List.forall_mem_cons.mpr ⟨cj_6 _ (List.mem_of_getElem? (i := 20) rfl), List.forall_mem_cons.mpr ⟨cj_3 _ (List.mem_of_getElem? (i := 10) rfl), List.forall_mem_cons.mpr ⟨cj_3 _ (List.mem_of_getElem? (i := 11) rfl), List.forall_mem_cons.mpr ⟨cj_3 _ (List.mem_of_getElem? (i := 12) rfl), fun _ h => absurd h List.not_mem_nil⟩⟩⟩⟩⟩⟩⟩⟩⟩⟩⟩⟩⟩⟩⟩⟩
theorem gm_L_recover : ∀ w ∈ wsL_recover, w ∈ wsL_law := fun w h => by
  unfold wsL_recover at h
  rcases List.mem_cons.mp h with h | h
  · subst h; exact cj_30 _ (List.mem_of_getElem? (i := 5) rfl)
  · rcases List.mem_append.mp h with h | h
    · rcases List.mem_append.mp h with h | h
      · rcases List.mem_append.mp h with h | h
        · rcases List.mem_append.mp h with h | h
          · rcases List.mem_append.mp h with h | h
            · exact cm_L_recover_r1 w h
            · exact cm_L_recover_r2 w h
          · exact inlX5 w h
        · exact inlX0 w h
      · exact inlX4 w h
    · exact cg_0 w h
set_option maxRecDepth 20000 in
theorem ggL_law_L_recover : GoodIn wsL_law wsL_recover := goodIn_sub gm_L_recover (by decide +kernel)
set_option maxRecDepth 20000 in
theorem gL_law_L_recover : GoodIn wsL_law (va_wsS RL 158 yL_recover wsL_recover) := goodIn_app (goodIn_of _ (by decide +kernel)) ggL_law_L_recover
theorem cm_X6_recover_r1 : ∀ w ∈ ([.fieldLink RX6 94 "CommitTreeModel" "down" "Z", .fieldLink RX6 160 "CommitTreeModel" "marked" "Z", .fieldLink RX6 133 "CommitTreeModel" "home" "I", .methodLink RX6 102 yX6_fails, .instanceMethod yX6_fails, .selects RX6 yX6_fails yX6_fails, .initialized RX6, .code yX6_fails cX6_fails 2 (some .boolean), .fieldLink RX6 67 "CommitTreeModel" "code" "I", .methodLink RX6 154 yX6_writes, .instanceMethod yX6_writes, .selects RX6 yX6_writes yX6_writes, .code yX6_writes cX6_writes 4 (some .boolean), .fieldLink RX6 45 "CommitTreeModel" "power" "I", .fieldLink RX6 35 "CommitTreeModel" "open" "[Z", .fieldLink RX6 151 "CommitTreeModel" "written" "I", .methodLink RX6 105 yX6_copyTree, .instanceMethod yX6_copyTree, .selects RX6 yX6_copyTree yX6_copyTree, .code yX6_copyTree cX6_copyTree 4 none, .fieldLink RX6 7 "CommitTreeModel" "counts" "[I", .methodLink RX6 70 yX6_copyNode, .instanceMethod yX6_copyNode, .selects RX6 yX6_copyNode yX6_copyNode] : List Cond), w ∈ wsL_law := List.forall_mem_cons.mpr ⟨cj_7 _ (List.mem_of_getElem? (i := 5) rfl), List.forall_mem_cons.mpr ⟨cj_14 _ (List.mem_of_getElem? (i := 2) rfl), List.forall_mem_cons.mpr ⟨cj_14 _ (List.mem_of_getElem? (i := 3) rfl), List.forall_mem_cons.mpr ⟨cj_7 _ (List.mem_of_getElem? (i := 6) rfl), List.forall_mem_cons.mpr ⟨cj_7 _ (List.mem_of_getElem? (i := 7) rfl), List.forall_mem_cons.mpr ⟨cj_7 _ (List.mem_of_getElem? (i := 8) rfl), List.forall_mem_cons.mpr ⟨cj_1 _ (List.mem_of_getElem? (i := 5) rfl), List.forall_mem_cons.mpr ⟨cj_7 _ (List.mem_of_getElem? (i := 9) rfl), List.forall_mem_cons.mpr ⟨cj_7 _ (List.mem_of_getElem? (i := 10) rfl), List.forall_mem_cons.mpr ⟨cj_16 _ (List.mem_of_getElem? (i := 0) rfl), List.forall_mem_cons.mpr ⟨cj_16 _ (List.mem_of_getElem? (i := 1) rfl), List.forall_mem_cons.mpr ⟨cj_16 _ (List.mem_of_getElem? (i := 2) rfl), List.forall_mem_cons.mpr ⟨cj_16 _ (List.mem_of_getElem? (i := 3) rfl), List.forall_mem_cons.mpr ⟨cj_5 _ (List.mem_of_getElem? (i := 10) rfl), List.forall_mem_cons.mpr ⟨cj_5 _ (List.mem_of_getElem? (i := 6) rfl), List.forall_mem_cons.mpr ⟨cj_16 _ (List.mem_of_getElem? (i := 4) rfl), List.forall_mem_cons.mpr ⟨cj_7 _ (List.mem_of_getElem? (i := 11) rfl), List.forall_mem_cons.mpr ⟨cj_7 _ (List.mem_of_getElem? (i := 12) rfl), List.forall_mem_cons.mpr ⟨cj_7 _ (List.mem_of_getElem? (i := 13) rfl), List.forall_mem_cons.mpr ⟨cj_7 _ (List.mem_of_getElem? (i := 14) rfl), List.forall_mem_cons.mpr ⟨cj_4 _ (List.mem_of_getElem? (i := 20) rfl), List.forall_mem_cons.mpr ⟨cj_7 _ (List.mem_of_getElem? (i := 15) rfl), List.forall_mem_cons.mpr ⟨cj_7 _ (List.mem_of_getElem? (i := 16) rfl), List.forall_mem_cons.mpr ⟨cj_7 _ (List.mem_of_getElem? (i := 17) rfl), fun _ h => absurd h List.not_mem_nil⟩⟩⟩⟩⟩⟩⟩⟩⟩⟩⟩⟩⟩⟩⟩⟩⟩⟩⟩⟩⟩⟩⟩⟩
theorem cm_X6_recover_r2 : ∀ w ∈ ([.code yX6_copyNode cX6_copyNode 4 none, .fieldLink RX6 13 "CommitTreeModel" "ids" "[I", .fieldLink RX6 16 "CommitTreeModel" "dirs" "[Z", .fieldLink RX6 24 "CommitTreeModel" "lengths" "[I", .fieldLink RX6 21 "CommitTreeModel" "entries" "[I", .fieldLink RX6 28 "CommitTreeModel" "words" "[I"] : List Cond), w ∈ wsL_law := List.forall_mem_cons.mpr ⟨cj_7 _ (List.mem_of_getElem? (i := 18) rfl), List.forall_mem_cons.mpr ⟨cj_4 _ (List.mem_of_getElem? (i := 21) rfl), List.forall_mem_cons.mpr ⟨cj_4 _ (List.mem_of_getElem? (i := 23) rfl), List.forall_mem_cons.mpr ⟨cj_5 _ (List.mem_of_getElem? (i := 2) rfl), List.forall_mem_cons.mpr ⟨cj_5 _ (List.mem_of_getElem? (i := 1) rfl), List.forall_mem_cons.mpr ⟨cj_5 _ (List.mem_of_getElem? (i := 4) rfl), fun _ h => absurd h List.not_mem_nil⟩⟩⟩⟩⟩⟩
theorem gm_X6_recover : ∀ w ∈ wsX6_recover, w ∈ wsL_law := fun w h => by
  unfold wsX6_recover at h
  rcases List.mem_cons.mp h with h | h
  · subst h; exact cj_30 _ (List.mem_of_getElem? (i := 13) rfl)
  · rcases List.mem_append.mp h with h | h
    · rcases List.mem_append.mp h with h | h
      · exact cm_X6_recover_r1 w h
      · exact cm_X6_recover_r2 w h
    · exact inlX6 w h
set_option maxRecDepth 20000 in
theorem ggL_law_X6_recover : GoodIn wsL_law wsX6_recover := goodIn_sub gm_X6_recover (by decide +kernel)
set_option maxRecDepth 20000 in
theorem gL_law_X6_recover : GoodIn wsL_law (wsV RL 160 RX6 yX6_recover wsX6_recover) := goodIn_app (goodIn_of _ (by decide +kernel)) ggL_law_X6_recover
theorem cm_L_count_r1 : ∀ w ∈ ([.classLink RL 31 "java/lang/IllegalArgumentException", .methodLink RL 85 yX5_count, .instanceMethod yX5_count, .selects RX5 yX5_count yX5_count, .initialized RX5, .code yX5_count cX5_count 2 (some .int), .classLink RX5 175 "java/lang/IllegalArgumentException", .initialized "java/lang/IllegalArgumentException", .fieldLink RX5 60 "CommitTree" "committed" "I", .fieldLink RX5 10 "CommitTree" "tree" "LCommitTree$Tree;", .fieldLink RX5 131 "CommitTree$Tree" "size" "I", .fieldLink RX5 66 "CommitTree" "down" "Z", .fieldLink RX5 39 "CommitTree" "disk" "LCommitTree$Disk;", .fieldLink RX5 257 "CommitTree$Disk" "written" "I", .methodLink RX5 251 yX4_blocks, .instanceMethod yX4_blocks, .selects RX4 yX4_blocks yX4_blocks, .initialized RX4, .code yX4_blocks cX4_blocks 4 (some .int), .fieldLink RX4 17 "CommitTree$Tree" "size" "I", .methodLink RX4 28 yX4_at, .instanceMethod yX4_at, .selects RX4 yX4_at yX4_at, .code yX4_at cX4_at 2 (some (.object "CommitTree$Node"))] : List Cond), w ∈ wsL_law := List.forall_mem_cons.mpr ⟨cj_16 _ (List.mem_of_getElem? (i := 19) rfl), List.forall_mem_cons.mpr ⟨cj_30 _ (List.mem_of_getElem? (i := 17) rfl), List.forall_mem_cons.mpr ⟨cj_30 _ (List.mem_of_getElem? (i := 18) rfl), List.forall_mem_cons.mpr ⟨cj_30 _ (List.mem_of_getElem? (i := 19) rfl), List.forall_mem_cons.mpr ⟨cj_1 _ (List.mem_of_getElem? (i := 2) rfl), List.forall_mem_cons.mpr ⟨cj_30 _ (List.mem_of_getElem? (i := 20) rfl), List.forall_mem_cons.mpr ⟨cj_17 _ (List.mem_of_getElem? (i := 6) rfl), List.forall_mem_cons.mpr ⟨cj_17 _ (List.mem_of_getElem? (i := 7) rfl), List.forall_mem_cons.mpr ⟨cj_2 _ (List.mem_of_getElem? (i := 8) rfl), List.forall_mem_cons.mpr ⟨cj_1 _ (List.mem_of_getElem? (i := 16) rfl), List.forall_mem_cons.mpr ⟨cj_17 _ (List.mem_of_getElem? (i := 1) rfl), List.forall_mem_cons.mpr ⟨cj_2 _ (List.mem_of_getElem? (i := 10) rfl), List.forall_mem_cons.mpr ⟨cj_2 _ (List.mem_of_getElem? (i := 1) rfl), List.forall_mem_cons.mpr ⟨cj_30 _ (List.mem_of_getElem? (i := 21) rfl), List.forall_mem_cons.mpr ⟨cj_30 _ (List.mem_of_getElem? (i := 22) rfl), List.forall_mem_cons.mpr ⟨cj_30 _ (List.mem_of_getElem? (i := 23) rfl), List.forall_mem_cons.mpr ⟨cj_31 _ (List.mem_of_getElem? (i := 0) rfl), List.forall_mem_cons.mpr ⟨cj_1 _ (List.mem_of_getElem? (i := 15) rfl), List.forall_mem_cons.mpr ⟨cj_31 _ (List.mem_of_getElem? (i := 1) rfl), List.forall_mem_cons.mpr ⟨cj_2 _ (List.mem_of_getElem? (i := 17) rfl), List.forall_mem_cons.mpr ⟨cj_6 _ (List.mem_of_getElem? (i := 16) rfl), List.forall_mem_cons.mpr ⟨cj_6 _ (List.mem_of_getElem? (i := 17) rfl), List.forall_mem_cons.mpr ⟨cj_6 _ (List.mem_of_getElem? (i := 18) rfl), List.forall_mem_cons.mpr ⟨cj_6 _ (List.mem_of_getElem? (i := 19) rfl), fun _ h => absurd h List.not_mem_nil⟩⟩⟩⟩⟩⟩⟩⟩⟩⟩⟩⟩⟩⟩⟩⟩⟩⟩⟩⟩⟩⟩⟩⟩
theorem cm_L_count_r2 : ∀ w ∈ ([.fieldLink RX4 11 "CommitTree$Tree" "nodes" "[LCommitTree$Node;", .methodLink RX4 47 yX2_blocks, .instanceMethod yX2_blocks, .selects RX2 yX2_blocks yX2_blocks, .initialized RX2, .code yX2_blocks cX2_blocks 1 (some .int), .fieldLink RX2 15 "CommitTree$Node" "directory" "Z", .fieldLink RX2 19 "CommitTree$Node" "size" "I", .methodLink RX2 40 yX2_wordBlocks, .static yX2_wordBlocks, .code yX2_wordBlocks cX2_wordBlocks 1 (some .int), .methodLink RX5 254 yX5_openTransactions, .instanceMethod yX5_openTransactions, .selects RX5 yX5_openTransactions yX5_openTransactions, .code yX5_openTransactions cX5_openTransactions 4 (some .int), .fieldLink RX5 45 "CommitTree" "transactions" "[LCommitTree$Transaction;", .fieldLink RX5 80 "CommitTree$Transaction" "open" "Z"] : List Cond), w ∈ wsL_law := List.forall_mem_cons.mpr ⟨cj_2 _ (List.mem_of_getElem? (i := 16) rfl), List.forall_mem_cons.mpr ⟨cj_31 _ (List.mem_of_getElem? (i := 2) rfl), List.forall_mem_cons.mpr ⟨cj_31 _ (List.mem_of_getElem? (i := 3) rfl), List.forall_mem_cons.mpr ⟨cj_31 _ (List.mem_of_getElem? (i := 4) rfl), List.forall_mem_cons.mpr ⟨cj_2 _ (List.mem_of_getElem? (i := 20) rfl), List.forall_mem_cons.mpr ⟨cj_31 _ (List.mem_of_getElem? (i := 5) rfl), List.forall_mem_cons.mpr ⟨cj_3 _ (List.mem_of_getElem? (i := 6) rfl), List.forall_mem_cons.mpr ⟨cj_3 _ (List.mem_of_getElem? (i := 7) rfl), List.forall_mem_cons.mpr ⟨cj_31 _ (List.mem_of_getElem? (i := 6) rfl), List.forall_mem_cons.mpr ⟨cj_12 _ (List.mem_of_getElem? (i := 1) rfl), List.forall_mem_cons.mpr ⟨cj_12 _ (List.mem_of_getElem? (i := 2) rfl), List.forall_mem_cons.mpr ⟨cj_31 _ (List.mem_of_getElem? (i := 7) rfl), List.forall_mem_cons.mpr ⟨cj_31 _ (List.mem_of_getElem? (i := 8) rfl), List.forall_mem_cons.mpr ⟨cj_31 _ (List.mem_of_getElem? (i := 9) rfl), List.forall_mem_cons.mpr ⟨cj_31 _ (List.mem_of_getElem? (i := 10) rfl), List.forall_mem_cons.mpr ⟨cj_2 _ (List.mem_of_getElem? (i := 3) rfl), List.forall_mem_cons.mpr ⟨cj_6 _ (List.mem_of_getElem? (i := 7) rfl), fun _ h => absurd h List.not_mem_nil⟩⟩⟩⟩⟩⟩⟩⟩⟩⟩⟩⟩⟩⟩⟩⟩⟩
theorem gm_L_count : ∀ w ∈ wsL_count, w ∈ wsL_law := fun w h => by
  unfold wsL_count at h
  rcases List.mem_cons.mp h with h | h
  · subst h; exact cj_30 _ (List.mem_of_getElem? (i := 16) rfl)
  · rcases List.mem_append.mp h with h | h
    · rcases List.mem_append.mp h with h | h
      · rcases List.mem_append.mp h with h | h
        · rcases List.mem_append.mp h with h | h
          · rcases List.mem_append.mp h with h | h
            · rcases List.mem_append.mp h with h | h
              · rcases List.mem_append.mp h with h | h
                · exact cm_L_count_r1 w h
                · exact cm_L_count_r2 w h
              · exact inlX5 w h
            · exact inlX4 w h
          · exact inlX0 w h
        · exact inlX2 w h
      · exact inlX3 w h
    · exact cg_2 w h
set_option maxRecDepth 20000 in
theorem ggL_law_L_count : GoodIn wsL_law wsL_count := goodIn_sub gm_L_count (by decide +kernel)
set_option maxRecDepth 20000 in
theorem gL_law_L_count : GoodIn wsL_law (va_wsS RL 161 yL_count wsL_count) := goodIn_app (goodIn_of _ (by decide +kernel)) ggL_law_L_count
