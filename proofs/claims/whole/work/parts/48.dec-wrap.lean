/-! THE LAW: how its instructions are read -/
set_option maxRecDepth 20000 in
theorem lc_La_8 : (Jvm.Cond.classLink "MergeRowsLaw" (8 : Nat) "MergeRows") ∈ hB := hB_in 43 rfl (by decide +kernel)
set_option maxRecDepth 20000 in
theorem lm_La_58 : (Jvm.Cond.methodLink "MergeRowsLaw" (58 : Nat) ({ cls := "MergeRows", name := "<init>", desc := "()V" } : Jvm.MethodName)) ∈ hB := hB_in 45 rfl (by decide +kernel)
set_option maxRecDepth 20000 in
theorem lc_La_59 : (Jvm.Cond.classLink "MergeRowsLaw" (59 : Nat) "MergeRowsModel") ∈ hB := hB_in 588 rfl (by decide +kernel)
set_option maxRecDepth 20000 in
theorem lm_La_61 : (Jvm.Cond.methodLink "MergeRowsLaw" (61 : Nat) ({ cls := "MergeRowsModel", name := "<init>", desc := "()V" } : Jvm.MethodName)) ∈ hB := hB_in 590 rfl (by decide +kernel)
theorem dLa_put_0 : decode cLa_put 0 = .ok (.aload_n 3, 1) := by decide +kernel
theorem dLa_put_1 : decode cLa_put 1 = .ok (.iconst 0, 1) := by decide +kernel
theorem dLa_put_2 : decode cLa_put 2 = .ok (.aload_n 0, 1) := by decide +kernel
theorem dLa_put_3 : decode cLa_put 3 = .ok (.iload_n 1, 1) := by decide +kernel
theorem dLa_put_4 : decode cLa_put 4 = .ok (.iload_n 2, 1) := by decide +kernel
theorem dLa_put_5 : decode cLa_put 5 = .ok (.invokevirtual 7, 3) := by decide +kernel
theorem dLa_put_8 : decode cLa_put 8 = .ok (.i2l, 1) := by decide +kernel
theorem dLa_put_9 : decode cLa_put 9 = .ok (.lastore, 1) := by decide +kernel
theorem dLa_put_10 : decode cLa_put 10 = .ok (.goto 11, 3) := by decide +kernel
theorem dLa_put_13 : decode cLa_put 13 = .ok (.astore 4, 2) := by decide +kernel
theorem dLa_put_15 : decode cLa_put 15 = .ok (.iconst 1, 1) := by decide +kernel
theorem dLa_put_16 : decode cLa_put 16 = .ok (.ireturn, 1) := by decide +kernel
theorem dLa_put_17 : decode cLa_put 17 = .ok (.astore 4, 2) := by decide +kernel
theorem dLa_put_19 : decode cLa_put 19 = .ok (.iconst 2, 1) := by decide +kernel
theorem dLa_put_20 : decode cLa_put 20 = .ok (.ireturn, 1) := by decide +kernel
theorem dLa_put_21 : decode cLa_put 21 = .ok (.iconst 0, 1) := by decide +kernel
theorem dLa_put_22 : decode cLa_put 22 = .ok (.ireturn, 1) := by decide +kernel
theorem dLa_clear_0 : decode cLa_clear 0 = .ok (.aload_n 0, 1) := by decide +kernel
theorem dLa_clear_1 : decode cLa_clear 1 = .ok (.iload_n 1, 1) := by decide +kernel
theorem dLa_clear_2 : decode cLa_clear 2 = .ok (.invokevirtual 17, 3) := by decide +kernel
theorem dLa_clear_5 : decode cLa_clear 5 = .ok (.goto 6, 3) := by decide +kernel
theorem dLa_clear_8 : decode cLa_clear 8 = .ok (.astore_n 2, 1) := by decide +kernel
theorem dLa_clear_9 : decode cLa_clear 9 = .ok (.iconst 1, 1) := by decide +kernel
theorem dLa_clear_10 : decode cLa_clear 10 = .ok (.ireturn, 1) := by decide +kernel
theorem dLa_clear_11 : decode cLa_clear 11 = .ok (.iconst 0, 1) := by decide +kernel
theorem dLa_clear_12 : decode cLa_clear 12 = .ok (.ireturn, 1) := by decide +kernel
theorem dLa_size_0 : decode cLa_size 0 = .ok (.aload_n 2, 1) := by decide +kernel
theorem dLa_size_1 : decode cLa_size 1 = .ok (.iconst 0, 1) := by decide +kernel
theorem dLa_size_2 : decode cLa_size 2 = .ok (.aload_n 0, 1) := by decide +kernel
theorem dLa_size_3 : decode cLa_size 3 = .ok (.iload_n 1, 1) := by decide +kernel
theorem dLa_size_4 : decode cLa_size 4 = .ok (.invokevirtual 21, 3) := by decide +kernel
theorem dLa_size_7 : decode cLa_size 7 = .ok (.i2l, 1) := by decide +kernel
theorem dLa_size_8 : decode cLa_size 8 = .ok (.lastore, 1) := by decide +kernel
theorem dLa_size_9 : decode cLa_size 9 = .ok (.goto 6, 3) := by decide +kernel
theorem dLa_size_12 : decode cLa_size 12 = .ok (.astore_n 3, 1) := by decide +kernel
theorem dLa_size_13 : decode cLa_size 13 = .ok (.iconst 1, 1) := by decide +kernel
theorem dLa_size_14 : decode cLa_size 14 = .ok (.ireturn, 1) := by decide +kernel
theorem dLa_size_15 : decode cLa_size 15 = .ok (.iconst 0, 1) := by decide +kernel
theorem dLa_size_16 : decode cLa_size 16 = .ok (.ireturn, 1) := by decide +kernel
theorem dLa_get_0 : decode cLa_get 0 = .ok (.aload_n 3, 1) := by decide +kernel
theorem dLa_get_1 : decode cLa_get 1 = .ok (.iconst 0, 1) := by decide +kernel
theorem dLa_get_2 : decode cLa_get 2 = .ok (.aload_n 0, 1) := by decide +kernel
theorem dLa_get_3 : decode cLa_get 3 = .ok (.iload_n 1, 1) := by decide +kernel
theorem dLa_get_4 : decode cLa_get 4 = .ok (.iload_n 2, 1) := by decide +kernel
theorem dLa_get_5 : decode cLa_get 5 = .ok (.invokevirtual 25, 3) := by decide +kernel
theorem dLa_get_8 : decode cLa_get 8 = .ok (.i2l, 1) := by decide +kernel
theorem dLa_get_9 : decode cLa_get 9 = .ok (.lastore, 1) := by decide +kernel
theorem dLa_get_10 : decode cLa_get 10 = .ok (.goto 11, 3) := by decide +kernel
theorem dLa_get_13 : decode cLa_get 13 = .ok (.astore 4, 2) := by decide +kernel
theorem dLa_get_15 : decode cLa_get 15 = .ok (.iconst 1, 1) := by decide +kernel
theorem dLa_get_16 : decode cLa_get 16 = .ok (.ireturn, 1) := by decide +kernel
theorem dLa_get_17 : decode cLa_get 17 = .ok (.astore 4, 2) := by decide +kernel
theorem dLa_get_19 : decode cLa_get 19 = .ok (.iconst 2, 1) := by decide +kernel
theorem dLa_get_20 : decode cLa_get 20 = .ok (.ireturn, 1) := by decide +kernel
theorem dLa_get_21 : decode cLa_get 21 = .ok (.iconst 0, 1) := by decide +kernel
theorem dLa_get_22 : decode cLa_get 22 = .ok (.ireturn, 1) := by decide +kernel
theorem dLa_common_0 : decode cLa_common 0 = .ok (.aload_n 3, 1) := by decide +kernel
theorem dLa_common_1 : decode cLa_common 1 = .ok (.iconst 0, 1) := by decide +kernel
theorem dLa_common_2 : decode cLa_common 2 = .ok (.aload_n 0, 1) := by decide +kernel
theorem dLa_common_3 : decode cLa_common 3 = .ok (.iload_n 1, 1) := by decide +kernel
theorem dLa_common_4 : decode cLa_common 4 = .ok (.iload_n 2, 1) := by decide +kernel
theorem dLa_common_5 : decode cLa_common 5 = .ok (.invokevirtual 30, 3) := by decide +kernel
theorem dLa_common_8 : decode cLa_common 8 = .ok (.i2l, 1) := by decide +kernel
theorem dLa_common_9 : decode cLa_common 9 = .ok (.lastore, 1) := by decide +kernel
theorem dLa_common_10 : decode cLa_common 10 = .ok (.goto 7, 3) := by decide +kernel
theorem dLa_common_13 : decode cLa_common 13 = .ok (.astore 4, 2) := by decide +kernel
theorem dLa_common_15 : decode cLa_common 15 = .ok (.iconst 1, 1) := by decide +kernel
theorem dLa_common_16 : decode cLa_common 16 = .ok (.ireturn, 1) := by decide +kernel
theorem dLa_common_17 : decode cLa_common 17 = .ok (.iconst 0, 1) := by decide +kernel
theorem dLa_common_18 : decode cLa_common 18 = .ok (.ireturn, 1) := by decide +kernel
theorem dLa_pair_0 : decode cLa_pair 0 = .ok (.aload_n 3, 1) := by decide +kernel
theorem dLa_pair_1 : decode cLa_pair 1 = .ok (.iconst 0, 1) := by decide +kernel
theorem dLa_pair_2 : decode cLa_pair 2 = .ok (.aload_n 0, 1) := by decide +kernel
theorem dLa_pair_3 : decode cLa_pair 3 = .ok (.iload_n 1, 1) := by decide +kernel
theorem dLa_pair_4 : decode cLa_pair 4 = .ok (.iload_n 2, 1) := by decide +kernel
theorem dLa_pair_5 : decode cLa_pair 5 = .ok (.invokevirtual 33, 3) := by decide +kernel
theorem dLa_pair_8 : decode cLa_pair 8 = .ok (.i2l, 1) := by decide +kernel
theorem dLa_pair_9 : decode cLa_pair 9 = .ok (.lastore, 1) := by decide +kernel
theorem dLa_pair_10 : decode cLa_pair 10 = .ok (.goto 7, 3) := by decide +kernel
theorem dLa_pair_13 : decode cLa_pair 13 = .ok (.astore 4, 2) := by decide +kernel
theorem dLa_pair_15 : decode cLa_pair 15 = .ok (.iconst 1, 1) := by decide +kernel
theorem dLa_pair_16 : decode cLa_pair 16 = .ok (.ireturn, 1) := by decide +kernel
theorem dLa_pair_17 : decode cLa_pair 17 = .ok (.iconst 0, 1) := by decide +kernel
theorem dLa_pair_18 : decode cLa_pair 18 = .ok (.ireturn, 1) := by decide +kernel
theorem dLa_hunks_0 : decode cLa_hunks 0 = .ok (.aload_n 3, 1) := by decide +kernel
theorem dLa_hunks_1 : decode cLa_hunks 1 = .ok (.iconst 0, 1) := by decide +kernel
theorem dLa_hunks_2 : decode cLa_hunks 2 = .ok (.aload_n 0, 1) := by decide +kernel
theorem dLa_hunks_3 : decode cLa_hunks 3 = .ok (.iload_n 1, 1) := by decide +kernel
theorem dLa_hunks_4 : decode cLa_hunks 4 = .ok (.iload_n 2, 1) := by decide +kernel
theorem dLa_hunks_5 : decode cLa_hunks 5 = .ok (.invokevirtual 36, 3) := by decide +kernel
theorem dLa_hunks_8 : decode cLa_hunks 8 = .ok (.i2l, 1) := by decide +kernel
theorem dLa_hunks_9 : decode cLa_hunks 9 = .ok (.lastore, 1) := by decide +kernel
theorem dLa_hunks_10 : decode cLa_hunks 10 = .ok (.goto 7, 3) := by decide +kernel
theorem dLa_hunks_13 : decode cLa_hunks 13 = .ok (.astore 4, 2) := by decide +kernel
theorem dLa_hunks_15 : decode cLa_hunks 15 = .ok (.iconst 1, 1) := by decide +kernel
theorem dLa_hunks_16 : decode cLa_hunks 16 = .ok (.ireturn, 1) := by decide +kernel
theorem dLa_hunks_17 : decode cLa_hunks 17 = .ok (.iconst 0, 1) := by decide +kernel
theorem dLa_hunks_18 : decode cLa_hunks 18 = .ok (.ireturn, 1) := by decide +kernel
theorem dLa_hunk_0 : decode cLa_hunk 0 = .ok (.aload_n 3, 1) := by decide +kernel
theorem dLa_hunk_1 : decode cLa_hunk 1 = .ok (.iconst 0, 1) := by decide +kernel
theorem dLa_hunk_2 : decode cLa_hunk 2 = .ok (.aload_n 0, 1) := by decide +kernel
theorem dLa_hunk_3 : decode cLa_hunk 3 = .ok (.iload_n 1, 1) := by decide +kernel
theorem dLa_hunk_4 : decode cLa_hunk 4 = .ok (.iload_n 2, 1) := by decide +kernel
theorem dLa_hunk_5 : decode cLa_hunk 5 = .ok (.invokevirtual 39, 3) := by decide +kernel
theorem dLa_hunk_8 : decode cLa_hunk 8 = .ok (.i2l, 1) := by decide +kernel
theorem dLa_hunk_9 : decode cLa_hunk 9 = .ok (.lastore, 1) := by decide +kernel
theorem dLa_hunk_10 : decode cLa_hunk 10 = .ok (.goto 7, 3) := by decide +kernel
theorem dLa_hunk_13 : decode cLa_hunk 13 = .ok (.astore 4, 2) := by decide +kernel
theorem dLa_hunk_15 : decode cLa_hunk 15 = .ok (.iconst 1, 1) := by decide +kernel
theorem dLa_hunk_16 : decode cLa_hunk 16 = .ok (.ireturn, 1) := by decide +kernel
theorem dLa_hunk_17 : decode cLa_hunk 17 = .ok (.iconst 0, 1) := by decide +kernel
theorem dLa_hunk_18 : decode cLa_hunk 18 = .ok (.ireturn, 1) := by decide +kernel
theorem dLa_merge_0 : decode cLa_merge 0 = .ok (.aload 5, 2) := by decide +kernel
theorem dLa_merge_2 : decode cLa_merge 2 = .ok (.iconst 0, 1) := by decide +kernel
theorem dLa_merge_3 : decode cLa_merge 3 = .ok (.aload_n 0, 1) := by decide +kernel
theorem dLa_merge_4 : decode cLa_merge 4 = .ok (.iload_n 1, 1) := by decide +kernel
theorem dLa_merge_5 : decode cLa_merge 5 = .ok (.iload_n 2, 1) := by decide +kernel
theorem dLa_merge_6 : decode cLa_merge 6 = .ok (.iload_n 3, 1) := by decide +kernel
theorem dLa_merge_7 : decode cLa_merge 7 = .ok (.iload 4, 2) := by decide +kernel
theorem dLa_merge_9 : decode cLa_merge 9 = .ok (.invokevirtual 42, 3) := by decide +kernel
theorem dLa_merge_12 : decode cLa_merge 12 = .ok (.i2l, 1) := by decide +kernel
theorem dLa_merge_13 : decode cLa_merge 13 = .ok (.lastore, 1) := by decide +kernel
theorem dLa_merge_14 : decode cLa_merge 14 = .ok (.goto 11, 3) := by decide +kernel
theorem dLa_merge_17 : decode cLa_merge 17 = .ok (.astore 6, 2) := by decide +kernel
theorem dLa_merge_19 : decode cLa_merge 19 = .ok (.iconst 1, 1) := by decide +kernel
theorem dLa_merge_20 : decode cLa_merge 20 = .ok (.ireturn, 1) := by decide +kernel
theorem dLa_merge_21 : decode cLa_merge 21 = .ok (.astore 6, 2) := by decide +kernel
theorem dLa_merge_23 : decode cLa_merge 23 = .ok (.iconst 2, 1) := by decide +kernel
theorem dLa_merge_24 : decode cLa_merge 24 = .ok (.ireturn, 1) := by decide +kernel
theorem dLa_merge_25 : decode cLa_merge 25 = .ok (.iconst 0, 1) := by decide +kernel
theorem dLa_merge_26 : decode cLa_merge 26 = .ok (.ireturn, 1) := by decide +kernel
theorem dLa_conflict_0 : decode cLa_conflict 0 = .ok (.aload_n 3, 1) := by decide +kernel
theorem dLa_conflict_1 : decode cLa_conflict 1 = .ok (.iconst 0, 1) := by decide +kernel
theorem dLa_conflict_2 : decode cLa_conflict 2 = .ok (.aload_n 0, 1) := by decide +kernel
theorem dLa_conflict_3 : decode cLa_conflict 3 = .ok (.iload_n 1, 1) := by decide +kernel
theorem dLa_conflict_4 : decode cLa_conflict 4 = .ok (.iload_n 2, 1) := by decide +kernel
theorem dLa_conflict_5 : decode cLa_conflict 5 = .ok (.invokevirtual 46, 3) := by decide +kernel
theorem dLa_conflict_8 : decode cLa_conflict 8 = .ok (.i2l, 1) := by decide +kernel
theorem dLa_conflict_9 : decode cLa_conflict 9 = .ok (.lastore, 1) := by decide +kernel
theorem dLa_conflict_10 : decode cLa_conflict 10 = .ok (.goto 7, 3) := by decide +kernel
theorem dLa_conflict_13 : decode cLa_conflict 13 = .ok (.astore 4, 2) := by decide +kernel
theorem dLa_conflict_15 : decode cLa_conflict 15 = .ok (.iconst 1, 1) := by decide +kernel
theorem dLa_conflict_16 : decode cLa_conflict 16 = .ok (.ireturn, 1) := by decide +kernel
theorem dLa_conflict_17 : decode cLa_conflict 17 = .ok (.iconst 0, 1) := by decide +kernel
theorem dLa_conflict_18 : decode cLa_conflict 18 = .ok (.ireturn, 1) := by decide +kernel
theorem dLa_patch_0 : decode cLa_patch 0 = .ok (.aload 5, 2) := by decide +kernel
theorem dLa_patch_2 : decode cLa_patch 2 = .ok (.iconst 0, 1) := by decide +kernel
theorem dLa_patch_3 : decode cLa_patch 3 = .ok (.aload_n 0, 1) := by decide +kernel
theorem dLa_patch_4 : decode cLa_patch 4 = .ok (.iload_n 1, 1) := by decide +kernel
theorem dLa_patch_5 : decode cLa_patch 5 = .ok (.iload_n 2, 1) := by decide +kernel
theorem dLa_patch_6 : decode cLa_patch 6 = .ok (.iload_n 3, 1) := by decide +kernel
theorem dLa_patch_7 : decode cLa_patch 7 = .ok (.iload 4, 2) := by decide +kernel
theorem dLa_patch_9 : decode cLa_patch 9 = .ok (.invokevirtual 49, 3) := by decide +kernel
theorem dLa_patch_12 : decode cLa_patch 12 = .ok (.i2l, 1) := by decide +kernel
theorem dLa_patch_13 : decode cLa_patch 13 = .ok (.lastore, 1) := by decide +kernel
theorem dLa_patch_14 : decode cLa_patch 14 = .ok (.goto 11, 3) := by decide +kernel
theorem dLa_patch_17 : decode cLa_patch 17 = .ok (.astore 6, 2) := by decide +kernel
theorem dLa_patch_19 : decode cLa_patch 19 = .ok (.iconst 1, 1) := by decide +kernel
theorem dLa_patch_20 : decode cLa_patch 20 = .ok (.ireturn, 1) := by decide +kernel
theorem dLa_patch_21 : decode cLa_patch 21 = .ok (.astore 6, 2) := by decide +kernel
theorem dLa_patch_23 : decode cLa_patch 23 = .ok (.iconst 2, 1) := by decide +kernel
theorem dLa_patch_24 : decode cLa_patch 24 = .ok (.ireturn, 1) := by decide +kernel
theorem dLa_patch_25 : decode cLa_patch 25 = .ok (.iconst 0, 1) := by decide +kernel
theorem dLa_patch_26 : decode cLa_patch 26 = .ok (.ireturn, 1) := by decide +kernel
theorem dLa_commit_0 : decode cLa_commit 0 = .ok (.aload_n 2, 1) := by decide +kernel
theorem dLa_commit_1 : decode cLa_commit 1 = .ok (.iconst 0, 1) := by decide +kernel
theorem dLa_commit_2 : decode cLa_commit 2 = .ok (.aload_n 0, 1) := by decide +kernel
theorem dLa_commit_3 : decode cLa_commit 3 = .ok (.iload_n 1, 1) := by decide +kernel
theorem dLa_commit_4 : decode cLa_commit 4 = .ok (.invokevirtual 52, 3) := by decide +kernel
theorem dLa_commit_7 : decode cLa_commit 7 = .ok (.i2l, 1) := by decide +kernel
theorem dLa_commit_8 : decode cLa_commit 8 = .ok (.lastore, 1) := by decide +kernel
theorem dLa_commit_9 : decode cLa_commit 9 = .ok (.goto 9, 3) := by decide +kernel
theorem dLa_commit_12 : decode cLa_commit 12 = .ok (.astore_n 3, 1) := by decide +kernel
theorem dLa_commit_13 : decode cLa_commit 13 = .ok (.iconst 1, 1) := by decide +kernel
theorem dLa_commit_14 : decode cLa_commit 14 = .ok (.ireturn, 1) := by decide +kernel
theorem dLa_commit_15 : decode cLa_commit 15 = .ok (.astore_n 3, 1) := by decide +kernel
theorem dLa_commit_16 : decode cLa_commit 16 = .ok (.iconst 2, 1) := by decide +kernel
theorem dLa_commit_17 : decode cLa_commit 17 = .ok (.ireturn, 1) := by decide +kernel
theorem dLa_commit_18 : decode cLa_commit 18 = .ok (.iconst 0, 1) := by decide +kernel
theorem dLa_commit_19 : decode cLa_commit 19 = .ok (.ireturn, 1) := by decide +kernel
theorem dLa_origin_0 : decode cLa_origin 0 = .ok (.aload_n 3, 1) := by decide +kernel
theorem dLa_origin_1 : decode cLa_origin 1 = .ok (.iconst 0, 1) := by decide +kernel
theorem dLa_origin_2 : decode cLa_origin 2 = .ok (.aload_n 0, 1) := by decide +kernel
theorem dLa_origin_3 : decode cLa_origin 3 = .ok (.iload_n 1, 1) := by decide +kernel
theorem dLa_origin_4 : decode cLa_origin 4 = .ok (.iload_n 2, 1) := by decide +kernel
theorem dLa_origin_5 : decode cLa_origin 5 = .ok (.invokevirtual 55, 3) := by decide +kernel
theorem dLa_origin_8 : decode cLa_origin 8 = .ok (.i2l, 1) := by decide +kernel
theorem dLa_origin_9 : decode cLa_origin 9 = .ok (.lastore, 1) := by decide +kernel
theorem dLa_origin_10 : decode cLa_origin 10 = .ok (.goto 11, 3) := by decide +kernel
theorem dLa_origin_13 : decode cLa_origin 13 = .ok (.astore 4, 2) := by decide +kernel
theorem dLa_origin_15 : decode cLa_origin 15 = .ok (.iconst 1, 1) := by decide +kernel
theorem dLa_origin_16 : decode cLa_origin 16 = .ok (.ireturn, 1) := by decide +kernel
theorem dLa_origin_17 : decode cLa_origin 17 = .ok (.astore 4, 2) := by decide +kernel
theorem dLa_origin_19 : decode cLa_origin 19 = .ok (.iconst 2, 1) := by decide +kernel
theorem dLa_origin_20 : decode cLa_origin 20 = .ok (.ireturn, 1) := by decide +kernel
theorem dLa_origin_21 : decode cLa_origin 21 = .ok (.iconst 0, 1) := by decide +kernel
theorem dLa_origin_22 : decode cLa_origin 22 = .ok (.ireturn, 1) := by decide +kernel
