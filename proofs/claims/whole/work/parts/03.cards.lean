/-- what a caller needs of a method: an instance method, a static one, a constructor -/
def hcV (y : MethodName) (bytes : ByteArray) (maxL : Nat) (ret : Option FieldType) (n : Nat) : Prop := Cond.code y bytes maxL ret ∈ hB ∧ Cond.initialized y.cls ∈ hB ∧ (y.cls ≠ "java/lang/invoke/MethodHandle" ∧ y.cls ≠ "java/lang/invoke/VarHandle" ∧ (parseMethodDescriptor y.desc).map (fun d => d.parameters.length) = some n) ∧ Cond.instanceMethod y ∈ hB ∧ Cond.selects y.cls y y ∈ hB
def hcS (y : MethodName) (bytes : ByteArray) (maxL : Nat) (ret : Option FieldType) (n : Nat) : Prop := Cond.code y bytes maxL ret ∈ hB ∧ Cond.initialized y.cls ∈ hB ∧ (y.cls ≠ "java/lang/invoke/MethodHandle" ∧ y.cls ≠ "java/lang/invoke/VarHandle" ∧ (parseMethodDescriptor y.desc).map (fun d => d.parameters.length) = some n) ∧ Cond.static y ∈ hB
def hcI (y : MethodName) (bytes : ByteArray) (maxL : Nat) (n : Nat) : Prop := Cond.code y bytes maxL none ∈ hB ∧ Cond.initialized y.cls ∈ hB ∧ (y.cls ≠ "java/lang/invoke/MethodHandle" ∧ y.cls ≠ "java/lang/invoke/VarHandle" ∧ (parseMethodDescriptor y.desc).map (fun d => d.parameters.length) = some n) ∧ y.name = "<init>" ∧ Cond.instanceMethod y ∈ hB
abbrev cMR_init : ByteArray := prog_1_method_1_code
def yMR_init : MethodName := ⟨RMR, "<init>", "()V"⟩
set_option maxRecDepth 20000 in
theorem kMR_init : hcI yMR_init cMR_init 4 0 := ⟨hB_in 47 rfl (by decide +kernel), hB_in 27 rfl (by decide +kernel), ⟨by decide +kernel, by decide +kernel, by decide +kernel⟩, rfl, hB_in 46 rfl (by decide +kernel)⟩
abbrev cMR_put : ByteArray := prog_1_method_2_code
def yMR_put : MethodName := ⟨RMR, "put", "(II)I"⟩
set_option maxRecDepth 20000 in
theorem kMR_put : hcV yMR_put cMR_put 4 (some .int) 2 := ⟨hB_in 262 rfl (by decide +kernel), hB_in 27 rfl (by decide +kernel), ⟨by decide +kernel, by decide +kernel, by decide +kernel⟩, hB_in 260 rfl (by decide +kernel), hB_in 261 rfl (by decide +kernel)⟩
abbrev cMR_clear : ByteArray := prog_1_method_3_code
def yMR_clear : MethodName := ⟨RMR, "clear", "(I)V"⟩
set_option maxRecDepth 20000 in
theorem kMR_clear : hcV yMR_clear cMR_clear 2 none 1 := ⟨hB_in 361 rfl (by decide +kernel), hB_in 27 rfl (by decide +kernel), ⟨by decide +kernel, by decide +kernel, by decide +kernel⟩, hB_in 359 rfl (by decide +kernel), hB_in 360 rfl (by decide +kernel)⟩
abbrev cMR_size : ByteArray := prog_1_method_4_code
def yMR_size : MethodName := ⟨RMR, "size", "(I)I"⟩
set_option maxRecDepth 20000 in
theorem kMR_size : hcV yMR_size cMR_size 2 (some .int) 1 := ⟨hB_in 368 rfl (by decide +kernel), hB_in 27 rfl (by decide +kernel), ⟨by decide +kernel, by decide +kernel, by decide +kernel⟩, hB_in 366 rfl (by decide +kernel), hB_in 367 rfl (by decide +kernel)⟩
abbrev cMR_get : ByteArray := prog_1_method_5_code
def yMR_get : MethodName := ⟨RMR, "get", "(II)I"⟩
set_option maxRecDepth 20000 in
theorem kMR_get : hcV yMR_get cMR_get 4 (some .int) 2 := ⟨hB_in 376 rfl (by decide +kernel), hB_in 27 rfl (by decide +kernel), ⟨by decide +kernel, by decide +kernel, by decide +kernel⟩, hB_in 374 rfl (by decide +kernel), hB_in 375 rfl (by decide +kernel)⟩
abbrev cMR_common : ByteArray := prog_1_method_6_code
def yMR_common : MethodName := ⟨RMR, "common", "(II)I"⟩
set_option maxRecDepth 20000 in
theorem kMR_common : hcV yMR_common cMR_common 5 (some .int) 2 := ⟨hB_in 399 rfl (by decide +kernel), hB_in 27 rfl (by decide +kernel), ⟨by decide +kernel, by decide +kernel, by decide +kernel⟩, hB_in 397 rfl (by decide +kernel), hB_in 398 rfl (by decide +kernel)⟩
abbrev cMR_pair : ByteArray := prog_1_method_7_code
def yMR_pair : MethodName := ⟨RMR, "pair", "(II)I"⟩
set_option maxRecDepth 20000 in
theorem kMR_pair : hcV yMR_pair cMR_pair 3 (some .int) 2 := ⟨hB_in 433 rfl (by decide +kernel), hB_in 27 rfl (by decide +kernel), ⟨by decide +kernel, by decide +kernel, by decide +kernel⟩, hB_in 431 rfl (by decide +kernel), hB_in 432 rfl (by decide +kernel)⟩
abbrev cMR_hunks : ByteArray := prog_1_method_8_code
def yMR_hunks : MethodName := ⟨RMR, "hunks", "(II)I"⟩
set_option maxRecDepth 20000 in
theorem kMR_hunks : hcV yMR_hunks cMR_hunks 5 (some .int) 2 := ⟨hB_in 441 rfl (by decide +kernel), hB_in 27 rfl (by decide +kernel), ⟨by decide +kernel, by decide +kernel, by decide +kernel⟩, hB_in 439 rfl (by decide +kernel), hB_in 440 rfl (by decide +kernel)⟩
abbrev cMR_hunk : ByteArray := prog_1_method_9_code
def yMR_hunk : MethodName := ⟨RMR, "hunk", "(II)I"⟩
set_option maxRecDepth 20000 in
theorem kMR_hunk : hcV yMR_hunk cMR_hunk 3 (some .int) 2 := ⟨hB_in 457 rfl (by decide +kernel), hB_in 27 rfl (by decide +kernel), ⟨by decide +kernel, by decide +kernel, by decide +kernel⟩, hB_in 455 rfl (by decide +kernel), hB_in 456 rfl (by decide +kernel)⟩
abbrev cMR_merge : ByteArray := prog_1_method_10_code
def yMR_merge : MethodName := ⟨RMR, "merge", "(IIII)I"⟩
set_option maxRecDepth 20000 in
theorem kMR_merge : hcV yMR_merge cMR_merge 10 (some .int) 4 := ⟨hB_in 465 rfl (by decide +kernel), hB_in 27 rfl (by decide +kernel), ⟨by decide +kernel, by decide +kernel, by decide +kernel⟩, hB_in 463 rfl (by decide +kernel), hB_in 464 rfl (by decide +kernel)⟩
abbrev cMR_conflict : ByteArray := prog_1_method_11_code
def yMR_conflict : MethodName := ⟨RMR, "conflict", "(II)I"⟩
set_option maxRecDepth 20000 in
theorem kMR_conflict : hcV yMR_conflict cMR_conflict 3 (some .int) 2 := ⟨hB_in 533 rfl (by decide +kernel), hB_in 27 rfl (by decide +kernel), ⟨by decide +kernel, by decide +kernel, by decide +kernel⟩, hB_in 531 rfl (by decide +kernel), hB_in 532 rfl (by decide +kernel)⟩
abbrev cMR_patch : ByteArray := prog_1_method_12_code
def yMR_patch : MethodName := ⟨RMR, "patch", "(IIII)I"⟩
set_option maxRecDepth 20000 in
theorem kMR_patch : hcV yMR_patch cMR_patch 9 (some .int) 4 := ⟨hB_in 541 rfl (by decide +kernel), hB_in 27 rfl (by decide +kernel), ⟨by decide +kernel, by decide +kernel, by decide +kernel⟩, hB_in 539 rfl (by decide +kernel), hB_in 540 rfl (by decide +kernel)⟩
abbrev cMR_commit : ByteArray := prog_1_method_13_code
def yMR_commit : MethodName := ⟨RMR, "commit", "(I)I"⟩
set_option maxRecDepth 20000 in
theorem kMR_commit : hcV yMR_commit cMR_commit 3 (some .int) 1 := ⟨hB_in 568 rfl (by decide +kernel), hB_in 27 rfl (by decide +kernel), ⟨by decide +kernel, by decide +kernel, by decide +kernel⟩, hB_in 566 rfl (by decide +kernel), hB_in 567 rfl (by decide +kernel)⟩
abbrev cMR_origin : ByteArray := prog_1_method_14_code
def yMR_origin : MethodName := ⟨RMR, "origin", "(II)I"⟩
set_option maxRecDepth 20000 in
theorem kMR_origin : hcV yMR_origin cMR_origin 3 (some .int) 2 := ⟨hB_in 586 rfl (by decide +kernel), hB_in 27 rfl (by decide +kernel), ⟨by decide +kernel, by decide +kernel, by decide +kernel⟩, hB_in 584 rfl (by decide +kernel), hB_in 585 rfl (by decide +kernel)⟩
abbrev cMR_rowAt : ByteArray := prog_1_method_15_code
def yMR_rowAt : MethodName := ⟨RMR, "rowAt", "(I)LMergeRows$Row;"⟩
set_option maxRecDepth 20000 in
theorem kMR_rowAt : hcV yMR_rowAt cMR_rowAt 2 (some (.object "MergeRows$Row")) 1 := ⟨hB_in 266 rfl (by decide +kernel), hB_in 27 rfl (by decide +kernel), ⟨by decide +kernel, by decide +kernel, by decide +kernel⟩, hB_in 265 rfl (by decide +kernel), hB_in 0 rfl (by decide +kernel)⟩
abbrev cMR_fillWithOutcome : ByteArray := prog_1_method_16_code
def yMR_fillWithOutcome : MethodName := ⟨RMR, "fillWithOutcome", "(LMergeRows$Row;LMergeRows$Row;)V"⟩
set_option maxRecDepth 20000 in
theorem kMR_fillWithOutcome : hcS yMR_fillWithOutcome cMR_fillWithOutcome 2 none 2 := ⟨hB_in 520 rfl (by decide +kernel), hB_in 27 rfl (by decide +kernel), ⟨by decide +kernel, by decide +kernel, by decide +kernel⟩, hB_in 519 rfl (by decide +kernel)⟩
abbrev cMM_init : ByteArray := prog_10_method_1_code
def yMM_init : MethodName := ⟨RMM, "<init>", "()V"⟩
set_option maxRecDepth 20000 in
theorem kMM_init : hcI yMM_init cMM_init 1 0 := ⟨hB_in 592 rfl (by decide +kernel), hB_in 35 rfl (by decide +kernel), ⟨by decide +kernel, by decide +kernel, by decide +kernel⟩, rfl, hB_in 591 rfl (by decide +kernel)⟩
abbrev cMM_thrown : ByteArray := prog_10_method_2_code
def yMM_thrown : MethodName := ⟨RMM, "thrown", "()I"⟩
set_option maxRecDepth 20000 in
theorem kMM_thrown : hcV yMM_thrown cMM_thrown 1 (some .int) 0 := ⟨hB_in 685 rfl (by decide +kernel), hB_in 35 rfl (by decide +kernel), ⟨by decide +kernel, by decide +kernel, by decide +kernel⟩, hB_in 683 rfl (by decide +kernel), hB_in 684 rfl (by decide +kernel)⟩
abbrev cMM_refuse : ByteArray := prog_10_method_3_code
def yMM_refuse : MethodName := ⟨RMM, "refuse", "(ZZ)Z"⟩
set_option maxRecDepth 20000 in
theorem kMM_refuse : hcV yMM_refuse cMM_refuse 3 (some .boolean) 2 := ⟨hB_in 696 rfl (by decide +kernel), hB_in 35 rfl (by decide +kernel), ⟨by decide +kernel, by decide +kernel, by decide +kernel⟩, hB_in 695 rfl (by decide +kernel), hB_in 13 rfl (by decide +kernel)⟩
abbrev cMM_isRow : ByteArray := prog_10_method_4_code
def yMM_isRow : MethodName := ⟨RMM, "isRow", "(I)Z"⟩
set_option maxRecDepth 20000 in
theorem kMM_isRow : hcS yMM_isRow cMM_isRow 1 (some .boolean) 1 := ⟨hB_in 692 rfl (by decide +kernel), hB_in 35 rfl (by decide +kernel), ⟨by decide +kernel, by decide +kernel, by decide +kernel⟩, hB_in 691 rfl (by decide +kernel)⟩
abbrev cMM_put : ByteArray := prog_10_method_5_code
def yMM_put : MethodName := ⟨RMM, "put", "(II)I"⟩
set_option maxRecDepth 20000 in
theorem kMM_put : hcV yMM_put cMM_put 4 (some .int) 2 := ⟨hB_in 689 rfl (by decide +kernel), hB_in 35 rfl (by decide +kernel), ⟨by decide +kernel, by decide +kernel, by decide +kernel⟩, hB_in 687 rfl (by decide +kernel), hB_in 688 rfl (by decide +kernel)⟩
abbrev cMM_clear : ByteArray := prog_10_method_6_code
def yMM_clear : MethodName := ⟨RMM, "clear", "(I)V"⟩
set_option maxRecDepth 20000 in
theorem kMM_clear : hcV yMM_clear cMM_clear 2 none 1 := ⟨hB_in 700 rfl (by decide +kernel), hB_in 35 rfl (by decide +kernel), ⟨by decide +kernel, by decide +kernel, by decide +kernel⟩, hB_in 698 rfl (by decide +kernel), hB_in 699 rfl (by decide +kernel)⟩
abbrev cMM_size : ByteArray := prog_10_method_7_code
def yMM_size : MethodName := ⟨RMM, "size", "(I)I"⟩
set_option maxRecDepth 20000 in
theorem kMM_size : hcV yMM_size cMM_size 2 (some .int) 1 := ⟨hB_in 704 rfl (by decide +kernel), hB_in 35 rfl (by decide +kernel), ⟨by decide +kernel, by decide +kernel, by decide +kernel⟩, hB_in 702 rfl (by decide +kernel), hB_in 703 rfl (by decide +kernel)⟩
abbrev cMM_get : ByteArray := prog_10_method_8_code
def yMM_get : MethodName := ⟨RMM, "get", "(II)I"⟩
set_option maxRecDepth 20000 in
theorem kMM_get : hcV yMM_get cMM_get 4 (some .int) 2 := ⟨hB_in 708 rfl (by decide +kernel), hB_in 35 rfl (by decide +kernel), ⟨by decide +kernel, by decide +kernel, by decide +kernel⟩, hB_in 706 rfl (by decide +kernel), hB_in 707 rfl (by decide +kernel)⟩
abbrev cMM_first : ByteArray := prog_10_method_9_code
def yMM_first : MethodName := ⟨RMM, "first", "([III)V"⟩
set_option maxRecDepth 20000 in
theorem kMM_first : hcV yMM_first cMM_first 5 none 3 := ⟨hB_in 720 rfl (by decide +kernel), hB_in 35 rfl (by decide +kernel), ⟨by decide +kernel, by decide +kernel, by decide +kernel⟩, hB_in 719 rfl (by decide +kernel), hB_in 15 rfl (by decide +kernel)⟩
abbrev cMM_second : ByteArray := prog_10_method_10_code
def yMM_second : MethodName := ⟨RMM, "second", "([III)V"⟩
set_option maxRecDepth 20000 in
theorem kMM_second : hcV yMM_second cMM_second 5 none 3 := ⟨hB_in 724 rfl (by decide +kernel), hB_in 35 rfl (by decide +kernel), ⟨by decide +kernel, by decide +kernel, by decide +kernel⟩, hB_in 723 rfl (by decide +kernel), hB_in 16 rfl (by decide +kernel)⟩
abbrev cMM_rows : ByteArray := prog_10_method_11_code
def yMM_rows : MethodName := ⟨RMM, "rows", "(II)V"⟩
set_option maxRecDepth 20000 in
theorem kMM_rows : hcV yMM_rows cMM_rows 3 none 2 := ⟨hB_in 716 rfl (by decide +kernel), hB_in 35 rfl (by decide +kernel), ⟨by decide +kernel, by decide +kernel, by decide +kernel⟩, hB_in 715 rfl (by decide +kernel), hB_in 14 rfl (by decide +kernel)⟩
abbrev cMM_compare : ByteArray := prog_10_method_12_code
def yMM_compare : MethodName := ⟨RMM, "compare", "()V"⟩
set_option maxRecDepth 20000 in
theorem kMM_compare : hcV yMM_compare cMM_compare 7 none 0 := ⟨hB_in 728 rfl (by decide +kernel), hB_in 35 rfl (by decide +kernel), ⟨by decide +kernel, by decide +kernel, by decide +kernel⟩, hB_in 727 rfl (by decide +kernel), hB_in 17 rfl (by decide +kernel)⟩
abbrev cMM_common : ByteArray := prog_10_method_13_code
def yMM_common : MethodName := ⟨RMM, "common", "(II)I"⟩
set_option maxRecDepth 20000 in
theorem kMM_common : hcV yMM_common cMM_common 4 (some .int) 2 := ⟨hB_in 712 rfl (by decide +kernel), hB_in 35 rfl (by decide +kernel), ⟨by decide +kernel, by decide +kernel, by decide +kernel⟩, hB_in 710 rfl (by decide +kernel), hB_in 711 rfl (by decide +kernel)⟩
abbrev cMM_pair : ByteArray := prog_10_method_14_code
def yMM_pair : MethodName := ⟨RMM, "pair", "(II)I"⟩
set_option maxRecDepth 20000 in
theorem kMM_pair : hcV yMM_pair cMM_pair 3 (some .int) 2 := ⟨hB_in 732 rfl (by decide +kernel), hB_in 35 rfl (by decide +kernel), ⟨by decide +kernel, by decide +kernel, by decide +kernel⟩, hB_in 730 rfl (by decide +kernel), hB_in 731 rfl (by decide +kernel)⟩
abbrev cMM_addPart : ByteArray := prog_10_method_15_code
def yMM_addPart : MethodName := ⟨RMM, "addPart", "(IIII)V"⟩
set_option maxRecDepth 20000 in
theorem kMM_addPart : hcV yMM_addPart cMM_addPart 5 none 4 := ⟨hB_in 744 rfl (by decide +kernel), hB_in 35 rfl (by decide +kernel), ⟨by decide +kernel, by decide +kernel, by decide +kernel⟩, hB_in 743 rfl (by decide +kernel), hB_in 19 rfl (by decide +kernel)⟩
abbrev cMM_cut : ByteArray := prog_10_method_16_code
def yMM_cut : MethodName := ⟨RMM, "cut", "()V"⟩
set_option maxRecDepth 20000 in
theorem kMM_cut : hcV yMM_cut cMM_cut 4 none 0 := ⟨hB_in 740 rfl (by decide +kernel), hB_in 35 rfl (by decide +kernel), ⟨by decide +kernel, by decide +kernel, by decide +kernel⟩, hB_in 739 rfl (by decide +kernel), hB_in 18 rfl (by decide +kernel)⟩
abbrev cMM_hunks : ByteArray := prog_10_method_17_code
def yMM_hunks : MethodName := ⟨RMM, "hunks", "(II)I"⟩
set_option maxRecDepth 20000 in
theorem kMM_hunks : hcV yMM_hunks cMM_hunks 4 (some .int) 2 := ⟨hB_in 736 rfl (by decide +kernel), hB_in 35 rfl (by decide +kernel), ⟨by decide +kernel, by decide +kernel, by decide +kernel⟩, hB_in 734 rfl (by decide +kernel), hB_in 735 rfl (by decide +kernel)⟩
abbrev cMM_hunk : ByteArray := prog_10_method_18_code
def yMM_hunk : MethodName := ⟨RMM, "hunk", "(II)I"⟩
set_option maxRecDepth 20000 in
theorem kMM_hunk : hcV yMM_hunk cMM_hunk 3 (some .int) 2 := ⟨hB_in 748 rfl (by decide +kernel), hB_in 35 rfl (by decide +kernel), ⟨by decide +kernel, by decide +kernel, by decide +kernel⟩, hB_in 746 rfl (by decide +kernel), hB_in 747 rfl (by decide +kernel)⟩
abbrev cMM_write : ByteArray := prog_10_method_19_code
def yMM_write : MethodName := ⟨RMM, "write", "(I)V"⟩
set_option maxRecDepth 20000 in
theorem kMM_write : hcV yMM_write cMM_write 2 none 1 := ⟨hB_in 768 rfl (by decide +kernel), hB_in 35 rfl (by decide +kernel), ⟨by decide +kernel, by decide +kernel, by decide +kernel⟩, hB_in 767 rfl (by decide +kernel), hB_in 23 rfl (by decide +kernel)⟩
abbrev cMM_writePart : ByteArray := prog_10_method_20_code
def yMM_writePart : MethodName := ⟨RMM, "writePart", "(III)V"⟩
set_option maxRecDepth 20000 in
theorem kMM_writePart : hcV yMM_writePart cMM_writePart 5 none 3 := ⟨hB_in 764 rfl (by decide +kernel), hB_in 35 rfl (by decide +kernel), ⟨by decide +kernel, by decide +kernel, by decide +kernel⟩, hB_in 763 rfl (by decide +kernel), hB_in 22 rfl (by decide +kernel)⟩
abbrev cMM_alike : ByteArray := prog_10_method_21_code
def yMM_alike : MethodName := ⟨RMM, "alike", "(IIIIII)Z"⟩
set_option maxRecDepth 20000 in
theorem kMM_alike : hcV yMM_alike cMM_alike 9 (some .boolean) 6 := ⟨hB_in 760 rfl (by decide +kernel), hB_in 35 rfl (by decide +kernel), ⟨by decide +kernel, by decide +kernel, by decide +kernel⟩, hB_in 759 rfl (by decide +kernel), hB_in 21 rfl (by decide +kernel)⟩
abbrev cMM_joinParts : ByteArray := prog_10_method_22_code
def yMM_joinParts : MethodName := ⟨RMM, "joinParts", "(IIIIIIIII)V"⟩
set_option maxRecDepth 20000 in
theorem kMM_joinParts : hcV yMM_joinParts cMM_joinParts 11 none 9 := ⟨hB_in 756 rfl (by decide +kernel), hB_in 35 rfl (by decide +kernel), ⟨by decide +kernel, by decide +kernel, by decide +kernel⟩, hB_in 755 rfl (by decide +kernel), hB_in 20 rfl (by decide +kernel)⟩
abbrev cMM_become : ByteArray := prog_10_method_23_code
def yMM_become : MethodName := ⟨RMM, "become", "(I)V"⟩
set_option maxRecDepth 20000 in
theorem kMM_become : hcV yMM_become cMM_become 3 none 1 := ⟨hB_in 772 rfl (by decide +kernel), hB_in 35 rfl (by decide +kernel), ⟨by decide +kernel, by decide +kernel, by decide +kernel⟩, hB_in 771 rfl (by decide +kernel), hB_in 24 rfl (by decide +kernel)⟩
abbrev cMM_merge : ByteArray := prog_10_method_24_code
def yMM_merge : MethodName := ⟨RMM, "merge", "(IIII)I"⟩
set_option maxRecDepth 20000 in
theorem kMM_merge : hcV yMM_merge cMM_merge 9 (some .int) 4 := ⟨hB_in 752 rfl (by decide +kernel), hB_in 35 rfl (by decide +kernel), ⟨by decide +kernel, by decide +kernel, by decide +kernel⟩, hB_in 750 rfl (by decide +kernel), hB_in 751 rfl (by decide +kernel)⟩
abbrev cMM_conflict : ByteArray := prog_10_method_25_code
def yMM_conflict : MethodName := ⟨RMM, "conflict", "(II)I"⟩
set_option maxRecDepth 20000 in
theorem kMM_conflict : hcV yMM_conflict cMM_conflict 3 (some .int) 2 := ⟨hB_in 776 rfl (by decide +kernel), hB_in 35 rfl (by decide +kernel), ⟨by decide +kernel, by decide +kernel, by decide +kernel⟩, hB_in 774 rfl (by decide +kernel), hB_in 775 rfl (by decide +kernel)⟩
abbrev cMM_fits : ByteArray := prog_10_method_26_code
def yMM_fits : MethodName := ⟨RMM, "fits", "(III)Z"⟩
set_option maxRecDepth 20000 in
theorem kMM_fits : hcV yMM_fits cMM_fits 8 (some .boolean) 3 := ⟨hB_in 787 rfl (by decide +kernel), hB_in 35 rfl (by decide +kernel), ⟨by decide +kernel, by decide +kernel, by decide +kernel⟩, hB_in 786 rfl (by decide +kernel), hB_in 25 rfl (by decide +kernel)⟩
abbrev cMM_apart : ByteArray := prog_10_method_27_code
def yMM_apart : MethodName := ⟨RMM, "apart", "(II)I"⟩
set_option maxRecDepth 20000 in
theorem kMM_apart : hcS yMM_apart cMM_apart 2 (some .int) 2 := ⟨hB_in 783 rfl (by decide +kernel), hB_in 35 rfl (by decide +kernel), ⟨by decide +kernel, by decide +kernel, by decide +kernel⟩, hB_in 782 rfl (by decide +kernel)⟩
abbrev cMM_patch : ByteArray := prog_10_method_28_code
def yMM_patch : MethodName := ⟨RMM, "patch", "(IIII)I"⟩
set_option maxRecDepth 20000 in
theorem kMM_patch : hcV yMM_patch cMM_patch 13 (some .int) 4 := ⟨hB_in 780 rfl (by decide +kernel), hB_in 35 rfl (by decide +kernel), ⟨by decide +kernel, by decide +kernel, by decide +kernel⟩, hB_in 778 rfl (by decide +kernel), hB_in 779 rfl (by decide +kernel)⟩
abbrev cMM_commit : ByteArray := prog_10_method_29_code
def yMM_commit : MethodName := ⟨RMM, "commit", "(I)I"⟩
set_option maxRecDepth 20000 in
theorem kMM_commit : hcV yMM_commit cMM_commit 5 (some .int) 1 := ⟨hB_in 791 rfl (by decide +kernel), hB_in 35 rfl (by decide +kernel), ⟨by decide +kernel, by decide +kernel, by decide +kernel⟩, hB_in 789 rfl (by decide +kernel), hB_in 790 rfl (by decide +kernel)⟩
abbrev cMM_origin : ByteArray := prog_10_method_30_code
def yMM_origin : MethodName := ⟨RMM, "origin", "(II)I"⟩
set_option maxRecDepth 20000 in
theorem kMM_origin : hcV yMM_origin cMM_origin 4 (some .int) 2 := ⟨hB_in 795 rfl (by decide +kernel), hB_in 35 rfl (by decide +kernel), ⟨by decide +kernel, by decide +kernel, by decide +kernel⟩, hB_in 793 rfl (by decide +kernel), hB_in 794 rfl (by decide +kernel)⟩
abbrev cCo_init : ByteArray := prog_2_method_1_code
def yCo_init : MethodName := ⟨RCo, "<init>", "([I)V"⟩
set_option maxRecDepth 20000 in
theorem kCo_init : hcI yCo_init cCo_init 2 1 := ⟨hB_in 81 rfl (by decide +kernel), hB_in 29 rfl (by decide +kernel), ⟨by decide +kernel, by decide +kernel, by decide +kernel⟩, rfl, hB_in 80 rfl (by decide +kernel)⟩
abbrev cCo_find : ByteArray := prog_2_method_2_code
def yCo_find : MethodName := ⟨RCo, "find", "(LMergeRows$Row;LMergeRows$Row;)V"⟩
set_option maxRecDepth 20000 in
theorem kCo_find : hcV yCo_find cCo_find 6 none 2 := ⟨hB_in 403 rfl (by decide +kernel), hB_in 29 rfl (by decide +kernel), ⟨by decide +kernel, by decide +kernel, by decide +kernel⟩, hB_in 401 rfl (by decide +kernel), hB_in 402 rfl (by decide +kernel)⟩
abbrev cCo_measure : ByteArray := prog_2_method_3_code
def yCo_measure : MethodName := ⟨RCo, "measure", "(LMergeRows$Row;LMergeRows$Row;)V"⟩
set_option maxRecDepth 20000 in
theorem kCo_measure : hcV yCo_measure cCo_measure 6 none 2 := ⟨hB_in 407 rfl (by decide +kernel), hB_in 29 rfl (by decide +kernel), ⟨by decide +kernel, by decide +kernel, by decide +kernel⟩, hB_in 406 rfl (by decide +kernel), hB_in 2 rfl (by decide +kernel)⟩
abbrev cCo_clearEnds : ByteArray := prog_2_method_4_code
def yCo_clearEnds : MethodName := ⟨RCo, "clearEnds", "(II)V"⟩
set_option maxRecDepth 20000 in
theorem kCo_clearEnds : hcV yCo_clearEnds cCo_clearEnds 4 none 2 := ⟨hB_in 411 rfl (by decide +kernel), hB_in 29 rfl (by decide +kernel), ⟨by decide +kernel, by decide +kernel, by decide +kernel⟩, hB_in 410 rfl (by decide +kernel), hB_in 3 rfl (by decide +kernel)⟩
abbrev cCo_losesNoPair : ByteArray := prog_2_method_5_code
def yCo_losesNoPair : MethodName := ⟨RCo, "losesNoPair", "(III)Z"⟩
set_option maxRecDepth 20000 in
theorem kCo_losesNoPair : hcV yCo_losesNoPair cCo_losesNoPair 5 (some .boolean) 3 := ⟨hB_in 422 rfl (by decide +kernel), hB_in 29 rfl (by decide +kernel), ⟨by decide +kernel, by decide +kernel, by decide +kernel⟩, hB_in 421 rfl (by decide +kernel), hB_in 4 rfl (by decide +kernel)⟩
abbrev cCo_addPair : ByteArray := prog_2_method_6_code
def yCo_addPair : MethodName := ⟨RCo, "addPair", "(II)V"⟩
set_option maxRecDepth 20000 in
theorem kCo_addPair : hcV yCo_addPair cCo_addPair 3 none 2 := ⟨hB_in 426 rfl (by decide +kernel), hB_in 29 rfl (by decide +kernel), ⟨by decide +kernel, by decide +kernel, by decide +kernel⟩, hB_in 425 rfl (by decide +kernel), hB_in 5 rfl (by decide +kernel)⟩
abbrev cHu_init : ByteArray := prog_3_method_1_code
def yHu_init : MethodName := ⟨RHu, "<init>", "(LMergeRows$Common;)V"⟩
set_option maxRecDepth 20000 in
theorem kHu_init : hcI yHu_init cHu_init 2 1 := ⟨hB_in 112 rfl (by decide +kernel), hB_in 30 rfl (by decide +kernel), ⟨by decide +kernel, by decide +kernel, by decide +kernel⟩, rfl, hB_in 111 rfl (by decide +kernel)⟩
abbrev cHu_find : ByteArray := prog_3_method_2_code
def yHu_find : MethodName := ⟨RHu, "find", "(LMergeRows$Row;LMergeRows$Row;)V"⟩
set_option maxRecDepth 20000 in
theorem kHu_find : hcV yHu_find cHu_find 6 none 2 := ⟨hB_in 445 rfl (by decide +kernel), hB_in 30 rfl (by decide +kernel), ⟨by decide +kernel, by decide +kernel, by decide +kernel⟩, hB_in 443 rfl (by decide +kernel), hB_in 444 rfl (by decide +kernel)⟩
abbrev cHu_addUnlessEmpty : ByteArray := prog_3_method_3_code
def yHu_addUnlessEmpty : MethodName := ⟨RHu, "addUnlessEmpty", "(IIII)V"⟩
set_option maxRecDepth 20000 in
theorem kHu_addUnlessEmpty : hcV yHu_addUnlessEmpty cHu_addUnlessEmpty 6 none 4 := ⟨hB_in 450 rfl (by decide +kernel), hB_in 30 rfl (by decide +kernel), ⟨by decide +kernel, by decide +kernel, by decide +kernel⟩, hB_in 449 rfl (by decide +kernel), hB_in 6 rfl (by decide +kernel)⟩
abbrev cMg_init : ByteArray := prog_4_method_1_code
def yMg_init : MethodName := ⟨RMg, "<init>", "(LMergeRows$Common;LMergeRows$Common;)V"⟩
set_option maxRecDepth 20000 in
theorem kMg_init : hcI yMg_init cMg_init 3 2 := ⟨hB_in 179 rfl (by decide +kernel), hB_in 33 rfl (by decide +kernel), ⟨by decide +kernel, by decide +kernel, by decide +kernel⟩, rfl, hB_in 178 rfl (by decide +kernel)⟩
abbrev cMg_run : ByteArray := prog_4_method_2_code
def yMg_run : MethodName := ⟨RMg, "run", "(LMergeRows$Row;LMergeRows$Row;LMergeRows$Row;)V"⟩
set_option maxRecDepth 20000 in
theorem kMg_run : hcV yMg_run cMg_run 4 none 3 := ⟨hB_in 469 rfl (by decide +kernel), hB_in 33 rfl (by decide +kernel), ⟨by decide +kernel, by decide +kernel, by decide +kernel⟩, hB_in 467 rfl (by decide +kernel), hB_in 468 rfl (by decide +kernel)⟩
abbrev cMg_mergeUpToAnchors : ByteArray := prog_4_method_3_code
def yMg_mergeUpToAnchors : MethodName := ⟨RMg, "mergeUpToAnchors", "(LMergeRows$Row;)V"⟩
set_option maxRecDepth 20000 in
theorem kMg_mergeUpToAnchors : hcV yMg_mergeUpToAnchors cMg_mergeUpToAnchors 5 none 1 := ⟨hB_in 478 rfl (by decide +kernel), hB_in 33 rfl (by decide +kernel), ⟨by decide +kernel, by decide +kernel, by decide +kernel⟩, hB_in 477 rfl (by decide +kernel), hB_in 7 rfl (by decide +kernel)⟩
abbrev cMg_stepPartsOverAnchor : ByteArray := prog_4_method_4_code
def yMg_stepPartsOverAnchor : MethodName := ⟨RMg, "stepPartsOverAnchor", "()V"⟩
set_option maxRecDepth 20000 in
theorem kMg_stepPartsOverAnchor : hcV yMg_stepPartsOverAnchor cMg_stepPartsOverAnchor 1 none 0 := ⟨hB_in 513 rfl (by decide +kernel), hB_in 33 rfl (by decide +kernel), ⟨by decide +kernel, by decide +kernel, by decide +kernel⟩, hB_in 512 rfl (by decide +kernel), hB_in 11 rfl (by decide +kernel)⟩
abbrev cMg_mergeParts : ByteArray := prog_4_method_5_code
def yMg_mergeParts : MethodName := ⟨RMg, "mergeParts", "(III)V"⟩
set_option maxRecDepth 20000 in
theorem kMg_mergeParts : hcV yMg_mergeParts cMg_mergeParts 4 none 3 := ⟨hB_in 482 rfl (by decide +kernel), hB_in 33 rfl (by decide +kernel), ⟨by decide +kernel, by decide +kernel, by decide +kernel⟩, hB_in 481 rfl (by decide +kernel), hB_in 8 rfl (by decide +kernel)⟩
abbrev cMg_take : ByteArray := prog_4_method_6_code
def yMg_take : MethodName := ⟨RMg, "take", "(LMergeRows$Part;)V"⟩
set_option maxRecDepth 20000 in
theorem kMg_take : hcV yMg_take cMg_take 2 none 1 := ⟨hB_in 498 rfl (by decide +kernel), hB_in 33 rfl (by decide +kernel), ⟨by decide +kernel, by decide +kernel, by decide +kernel⟩, hB_in 497 rfl (by decide +kernel), hB_in 9 rfl (by decide +kernel)⟩
abbrev cMg_addConflict : ByteArray := prog_4_method_7_code
def yMg_addConflict : MethodName := ⟨RMg, "addConflict", "()V"⟩
set_option maxRecDepth 20000 in
theorem kMg_addConflict : hcV yMg_addConflict cMg_addConflict 2 none 0 := ⟨hB_in 508 rfl (by decide +kernel), hB_in 33 rfl (by decide +kernel), ⟨by decide +kernel, by decide +kernel, by decide +kernel⟩, hB_in 507 rfl (by decide +kernel), hB_in 10 rfl (by decide +kernel)⟩
abbrev cPa_init : ByteArray := prog_5_method_1_code
def yPa_init : MethodName := ⟨RPa, "<init>", "()V"⟩
set_option maxRecDepth 20000 in
theorem kPa_init : hcI yPa_init cPa_init 1 0 := ⟨hB_in 187 rfl (by decide +kernel), hB_in 34 rfl (by decide +kernel), ⟨by decide +kernel, by decide +kernel, by decide +kernel⟩, rfl, hB_in 186 rfl (by decide +kernel)⟩
abbrev cPa_startOn : ByteArray := prog_5_method_2_code
def yPa_startOn : MethodName := ⟨RPa, "startOn", "(LMergeRows$Row;)V"⟩
set_option maxRecDepth 20000 in
theorem kPa_startOn : hcV yPa_startOn cPa_startOn 2 none 1 := ⟨hB_in 474 rfl (by decide +kernel), hB_in 34 rfl (by decide +kernel), ⟨by decide +kernel, by decide +kernel, by decide +kernel⟩, hB_in 472 rfl (by decide +kernel), hB_in 473 rfl (by decide +kernel)⟩
abbrev cPa_stepOverAnchor : ByteArray := prog_5_method_3_code
def yPa_stepOverAnchor : MethodName := ⟨RPa, "stepOverAnchor", "()V"⟩
set_option maxRecDepth 20000 in
theorem kPa_stepOverAnchor : hcV yPa_stepOverAnchor cPa_stepOverAnchor 1 none 0 := ⟨hB_in 517 rfl (by decide +kernel), hB_in 34 rfl (by decide +kernel), ⟨by decide +kernel, by decide +kernel, by decide +kernel⟩, hB_in 515 rfl (by decide +kernel), hB_in 516 rfl (by decide +kernel)⟩
abbrev cPa_length : ByteArray := prog_5_method_4_code
def yPa_length : MethodName := ⟨RPa, "length", "()I"⟩
set_option maxRecDepth 20000 in
theorem kPa_length : hcV yPa_length cPa_length 1 (some .int) 0 := ⟨hB_in 490 rfl (by decide +kernel), hB_in 34 rfl (by decide +kernel), ⟨by decide +kernel, by decide +kernel, by decide +kernel⟩, hB_in 488 rfl (by decide +kernel), hB_in 489 rfl (by decide +kernel)⟩
abbrev cPa_isLike : ByteArray := prog_5_method_5_code
def yPa_isLike : MethodName := ⟨RPa, "isLike", "(LMergeRows$Part;)Z"⟩
set_option maxRecDepth 20000 in
theorem kPa_isLike : hcV yPa_isLike cPa_isLike 3 (some .boolean) 1 := ⟨hB_in 486 rfl (by decide +kernel), hB_in 34 rfl (by decide +kernel), ⟨by decide +kernel, by decide +kernel, by decide +kernel⟩, hB_in 484 rfl (by decide +kernel), hB_in 485 rfl (by decide +kernel)⟩
abbrev cPg_init : ByteArray := prog_6_method_1_code
def yPg_init : MethodName := ⟨RPg, "<init>", "(LMergeRows$Hunks;)V"⟩
set_option maxRecDepth 20000 in
theorem kPg_init : hcI yPg_init cPg_init 2 1 := ⟨hB_in 132 rfl (by decide +kernel), hB_in 31 rfl (by decide +kernel), ⟨by decide +kernel, by decide +kernel, by decide +kernel⟩, rfl, hB_in 131 rfl (by decide +kernel)⟩
abbrev cPg_run : ByteArray := prog_6_method_2_code
def yPg_run : MethodName := ⟨RPg, "run", "(LMergeRows$Row;LMergeRows$Row;LMergeRows$Row;)V"⟩
set_option maxRecDepth 20000 in
theorem kPg_run : hcV yPg_run cPg_run 12 none 3 := ⟨hB_in 545 rfl (by decide +kernel), hB_in 31 rfl (by decide +kernel), ⟨by decide +kernel, by decide +kernel, by decide +kernel⟩, hB_in 543 rfl (by decide +kernel), hB_in 544 rfl (by decide +kernel)⟩
abbrev cPg_nearestFit : ByteArray := prog_6_method_3_code
def yPg_nearestFit : MethodName := ⟨RPg, "nearestFit", "(LMergeRows$Row;IILMergeRows$Row;II)I"⟩
set_option maxRecDepth 20000 in
theorem kPg_nearestFit : hcS yPg_nearestFit cPg_nearestFit 9 (some .int) 6 := ⟨hB_in 549 rfl (by decide +kernel), hB_in 31 rfl (by decide +kernel), ⟨by decide +kernel, by decide +kernel, by decide +kernel⟩, hB_in 548 rfl (by decide +kernel)⟩
abbrev cPg_fits : ByteArray := prog_6_method_4_code
def yPg_fits : MethodName := ⟨RPg, "fits", "(LMergeRows$Row;IILMergeRows$Row;I)Z"⟩
set_option maxRecDepth 20000 in
theorem kPg_fits : hcS yPg_fits cPg_fits 8 (some .boolean) 5 := ⟨hB_in 555 rfl (by decide +kernel), hB_in 31 rfl (by decide +kernel), ⟨by decide +kernel, by decide +kernel, by decide +kernel⟩, hB_in 554 rfl (by decide +kernel)⟩
abbrev cRo_init : ByteArray := prog_7_method_1_code
def yRo_init : MethodName := ⟨RRo, "<init>", "(I)V"⟩
set_option maxRecDepth 20000 in
theorem kRo_init : hcI yRo_init cRo_init 2 1 := ⟨hB_in 56 rfl (by decide +kernel), hB_in 28 rfl (by decide +kernel), ⟨by decide +kernel, by decide +kernel, by decide +kernel⟩, rfl, hB_in 55 rfl (by decide +kernel)⟩
abbrev cRo_add : ByteArray := prog_7_method_2_code
def yRo_add : MethodName := ⟨RRo, "add", "(I)V"⟩
set_option maxRecDepth 20000 in
theorem kRo_add : hcV yRo_add cRo_add 2 none 1 := ⟨hB_in 354 rfl (by decide +kernel), hB_in 28 rfl (by decide +kernel), ⟨by decide +kernel, by decide +kernel, by decide +kernel⟩, hB_in 352 rfl (by decide +kernel), hB_in 353 rfl (by decide +kernel)⟩
abbrev cRo_addPart : ByteArray := prog_7_method_3_code
def yRo_addPart : MethodName := ⟨RRo, "addPart", "(LMergeRows$Row;II)V"⟩
set_option maxRecDepth 20000 in
theorem kRo_addPart : hcV yRo_addPart cRo_addPart 5 none 3 := ⟨hB_in 502 rfl (by decide +kernel), hB_in 28 rfl (by decide +kernel), ⟨by decide +kernel, by decide +kernel, by decide +kernel⟩, hB_in 500 rfl (by decide +kernel), hB_in 501 rfl (by decide +kernel)⟩
abbrev cRo_become : ByteArray := prog_7_method_4_code
def yRo_become : MethodName := ⟨RRo, "become", "(LMergeRows$Row;)V"⟩
set_option maxRecDepth 20000 in
theorem kRo_become : hcV yRo_become cRo_become 2 none 1 := ⟨hB_in 525 rfl (by decide +kernel), hB_in 28 rfl (by decide +kernel), ⟨by decide +kernel, by decide +kernel, by decide +kernel⟩, hB_in 523 rfl (by decide +kernel), hB_in 524 rfl (by decide +kernel)⟩
abbrev cRo_hasAt : ByteArray := prog_7_method_5_code
def yRo_hasAt : MethodName := ⟨RRo, "hasAt", "(II)Z"⟩
set_option maxRecDepth 20000 in
theorem kRo_hasAt : hcV yRo_hasAt cRo_hasAt 3 (some .boolean) 2 := ⟨hB_in 494 rfl (by decide +kernel), hB_in 28 rfl (by decide +kernel), ⟨by decide +kernel, by decide +kernel, by decide +kernel⟩, hB_in 492 rfl (by decide +kernel), hB_in 493 rfl (by decide +kernel)⟩
abbrev cRo_firstPlaceOf : ByteArray := prog_7_method_6_code
def yRo_firstPlaceOf : MethodName := ⟨RRo, "firstPlaceOf", "(II)I"⟩
set_option maxRecDepth 20000 in
theorem kRo_firstPlaceOf : hcV yRo_firstPlaceOf cRo_firstPlaceOf 4 (some .int) 2 := ⟨hB_in 418 rfl (by decide +kernel), hB_in 28 rfl (by decide +kernel), ⟨by decide +kernel, by decide +kernel, by decide +kernel⟩, hB_in 416 rfl (by decide +kernel), hB_in 417 rfl (by decide +kernel)⟩
abbrev cVe_init : ByteArray := prog_8_method_1_code
def yVe_init : MethodName := ⟨RVe, "<init>", "(LMergeRows$Common;)V"⟩
set_option maxRecDepth 20000 in
theorem kVe_init : hcI yVe_init cVe_init 2 1 := ⟨hB_in 152 rfl (by decide +kernel), hB_in 32 rfl (by decide +kernel), ⟨by decide +kernel, by decide +kernel, by decide +kernel⟩, rfl, hB_in 151 rfl (by decide +kernel)⟩
abbrev cVe_add : ByteArray := prog_8_method_2_code
def yVe_add : MethodName := ⟨RVe, "add", "(LMergeRows$Row;)V"⟩
set_option maxRecDepth 20000 in
theorem kVe_add : hcV yVe_add cVe_add 2 none 1 := ⟨hB_in 573 rfl (by decide +kernel), hB_in 32 rfl (by decide +kernel), ⟨by decide +kernel, by decide +kernel, by decide +kernel⟩, hB_in 571 rfl (by decide +kernel), hB_in 572 rfl (by decide +kernel)⟩
abbrev cVe_fillOrigins : ByteArray := prog_8_method_3_code
def yVe_fillOrigins : MethodName := ⟨RVe, "fillOrigins", "(LMergeRows$Row;)V"⟩
set_option maxRecDepth 20000 in
theorem kVe_fillOrigins : hcV yVe_fillOrigins cVe_fillOrigins 4 none 1 := ⟨hB_in 577 rfl (by decide +kernel), hB_in 32 rfl (by decide +kernel), ⟨by decide +kernel, by decide +kernel, by decide +kernel⟩, hB_in 576 rfl (by decide +kernel), hB_in 12 rfl (by decide +kernel)⟩
abbrev cLa_put : ByteArray := method_3_code
def yLa_put : MethodName := ⟨RLa, "put", "(LMergeRows;II[J)I"⟩
abbrev cLa_clear : ByteArray := method_4_code
def yLa_clear : MethodName := ⟨RLa, "clear", "(LMergeRows;I)I"⟩
abbrev cLa_size : ByteArray := method_5_code
def yLa_size : MethodName := ⟨RLa, "size", "(LMergeRows;I[J)I"⟩
abbrev cLa_get : ByteArray := method_6_code
def yLa_get : MethodName := ⟨RLa, "get", "(LMergeRows;II[J)I"⟩
abbrev cLa_common : ByteArray := method_7_code
def yLa_common : MethodName := ⟨RLa, "common", "(LMergeRows;II[J)I"⟩
abbrev cLa_pair : ByteArray := method_8_code
def yLa_pair : MethodName := ⟨RLa, "pair", "(LMergeRows;II[J)I"⟩
abbrev cLa_hunks : ByteArray := method_9_code
def yLa_hunks : MethodName := ⟨RLa, "hunks", "(LMergeRows;II[J)I"⟩
abbrev cLa_hunk : ByteArray := method_10_code
def yLa_hunk : MethodName := ⟨RLa, "hunk", "(LMergeRows;II[J)I"⟩
abbrev cLa_merge : ByteArray := method_11_code
def yLa_merge : MethodName := ⟨RLa, "merge", "(LMergeRows;IIII[J)I"⟩
abbrev cLa_conflict : ByteArray := method_12_code
def yLa_conflict : MethodName := ⟨RLa, "conflict", "(LMergeRows;II[J)I"⟩
abbrev cLa_patch : ByteArray := method_13_code
def yLa_patch : MethodName := ⟨RLa, "patch", "(LMergeRows;IIII[J)I"⟩
abbrev cLa_commit : ByteArray := method_14_code
def yLa_commit : MethodName := ⟨RLa, "commit", "(LMergeRows;I[J)I"⟩
abbrev cLa_origin : ByteArray := method_15_code
def yLa_origin : MethodName := ⟨RLa, "origin", "(LMergeRows;II[J)I"⟩
abbrev cLa_law : ByteArray := code
def yLa_law : MethodName := ⟨RLa, "law", "([I)Z"⟩
set_option maxRecDepth 20000 in
theorem lm_MR_3 : (Jvm.Cond.methodLink "MergeRows" (3 : Nat) ({ cls := "java/lang/Object", name := "<init>", desc := "()V" } : Jvm.MethodName)) ∈ hB := hB_in 48 rfl (by decide +kernel)
set_option maxRecDepth 20000 in
theorem lc_MR_9 : (Jvm.Cond.classLink "MergeRows" (9 : Nat) "MergeRows$Row") ∈ hB := hB_in 51 rfl (by decide +kernel)
set_option maxRecDepth 20000 in
theorem lf_MR_11 : (Jvm.Cond.fieldLink "MergeRows" (11 : Nat) "MergeRows" "rows" "[LMergeRows$Row;") ∈ hB := hB_in 232 rfl (by decide +kernel)
set_option maxRecDepth 20000 in
theorem lm_MR_15 : (Jvm.Cond.methodLink "MergeRows" (15 : Nat) ({ cls := "MergeRows$Row", name := "<init>", desc := "(I)V" } : Jvm.MethodName)) ∈ hB := hB_in 54 rfl (by decide +kernel)
set_option maxRecDepth 20000 in
theorem lc_MR_18 : (Jvm.Cond.classLink "MergeRows" (18 : Nat) "MergeRows$Common") ∈ hB := hB_in 77 rfl (by decide +kernel)
set_option maxRecDepth 20000 in
theorem lm_MR_20 : (Jvm.Cond.methodLink "MergeRows" (20 : Nat) ({ cls := "MergeRows$Common", name := "<init>", desc := "([I)V" } : Jvm.MethodName)) ∈ hB := hB_in 79 rfl (by decide +kernel)
set_option maxRecDepth 20000 in
theorem lf_MR_23 : (Jvm.Cond.fieldLink "MergeRows" (23 : Nat) "MergeRows" "latestCommon" "LMergeRows$Common;") ∈ hB := hB_in 233 rfl (by decide +kernel)
set_option maxRecDepth 20000 in
theorem lc_MR_27 : (Jvm.Cond.classLink "MergeRows" (27 : Nat) "MergeRows$Hunks") ∈ hB := hB_in 108 rfl (by decide +kernel)
set_option maxRecDepth 20000 in
theorem lm_MR_29 : (Jvm.Cond.methodLink "MergeRows" (29 : Nat) ({ cls := "MergeRows$Hunks", name := "<init>", desc := "(LMergeRows$Common;)V" } : Jvm.MethodName)) ∈ hB := hB_in 110 rfl (by decide +kernel)
set_option maxRecDepth 20000 in
theorem lf_MR_32 : (Jvm.Cond.fieldLink "MergeRows" (32 : Nat) "MergeRows" "latestHunks" "LMergeRows$Hunks;") ∈ hB := hB_in 234 rfl (by decide +kernel)
set_option maxRecDepth 20000 in
theorem lc_MR_36 : (Jvm.Cond.classLink "MergeRows" (36 : Nat) "MergeRows$Patching") ∈ hB := hB_in 128 rfl (by decide +kernel)
set_option maxRecDepth 20000 in
theorem lm_MR_38 : (Jvm.Cond.methodLink "MergeRows" (38 : Nat) ({ cls := "MergeRows$Patching", name := "<init>", desc := "(LMergeRows$Hunks;)V" } : Jvm.MethodName)) ∈ hB := hB_in 130 rfl (by decide +kernel)
set_option maxRecDepth 20000 in
theorem lf_MR_41 : (Jvm.Cond.fieldLink "MergeRows" (41 : Nat) "MergeRows" "patching" "LMergeRows$Patching;") ∈ hB := hB_in 235 rfl (by decide +kernel)
set_option maxRecDepth 20000 in
theorem lc_MR_45 : (Jvm.Cond.classLink "MergeRows" (45 : Nat) "MergeRows$Versions") ∈ hB := hB_in 148 rfl (by decide +kernel)
set_option maxRecDepth 20000 in
theorem lm_MR_47 : (Jvm.Cond.methodLink "MergeRows" (47 : Nat) ({ cls := "MergeRows$Versions", name := "<init>", desc := "(LMergeRows$Common;)V" } : Jvm.MethodName)) ∈ hB := hB_in 150 rfl (by decide +kernel)
set_option maxRecDepth 20000 in
theorem lf_MR_48 : (Jvm.Cond.fieldLink "MergeRows" (48 : Nat) "MergeRows" "versions" "LMergeRows$Versions;") ∈ hB := hB_in 236 rfl (by decide +kernel)
set_option maxRecDepth 20000 in
theorem lc_MR_52 : (Jvm.Cond.classLink "MergeRows" (52 : Nat) "MergeRows$Merging") ∈ hB := hB_in 175 rfl (by decide +kernel)
set_option maxRecDepth 20000 in
theorem lm_MR_54 : (Jvm.Cond.methodLink "MergeRows" (54 : Nat) ({ cls := "MergeRows$Merging", name := "<init>", desc := "(LMergeRows$Common;LMergeRows$Common;)V" } : Jvm.MethodName)) ∈ hB := hB_in 177 rfl (by decide +kernel)
set_option maxRecDepth 20000 in
theorem lf_MR_57 : (Jvm.Cond.fieldLink "MergeRows" (57 : Nat) "MergeRows" "latestMerging" "LMergeRows$Merging;") ∈ hB := hB_in 237 rfl (by decide +kernel)
set_option maxRecDepth 20000 in
theorem lf_MR_61 : (Jvm.Cond.fieldLink "MergeRows" (61 : Nat) "MergeRows" "spareMerging" "LMergeRows$Merging;") ∈ hB := hB_in 238 rfl (by decide +kernel)
set_option maxRecDepth 20000 in
theorem lm_MR_64 : (Jvm.Cond.methodLink "MergeRows" (64 : Nat) ({ cls := "MergeRows", name := "rowAt", desc := "(I)LMergeRows$Row;" } : Jvm.MethodName)) ∈ hB := hB_in 263 rfl (by decide +kernel)
set_option maxRecDepth 20000 in
theorem lf_MR_68 : (Jvm.Cond.fieldLink "MergeRows" (68 : Nat) "MergeRows$Row" "count" "I") ∈ hB := hB_in 64 rfl (by decide +kernel)
set_option maxRecDepth 20000 in
theorem lm_MR_79 : (Jvm.Cond.methodLink "MergeRows" (79 : Nat) ({ cls := "MergeRows$Row", name := "add", desc := "(I)V" } : Jvm.MethodName)) ∈ hB := hB_in 351 rfl (by decide +kernel)
set_option maxRecDepth 20000 in
theorem lf_MR_87 : (Jvm.Cond.fieldLink "MergeRows" (87 : Nat) "MergeRows$Row" "lines" "[I") ∈ hB := hB_in 61 rfl (by decide +kernel)
set_option maxRecDepth 20000 in
theorem lm_MR_91 : (Jvm.Cond.methodLink "MergeRows" (91 : Nat) ({ cls := "MergeRows$Common", name := "find", desc := "(LMergeRows$Row;LMergeRows$Row;)V" } : Jvm.MethodName)) ∈ hB := hB_in 400 rfl (by decide +kernel)
set_option maxRecDepth 20000 in
theorem lf_MR_95 : (Jvm.Cond.fieldLink "MergeRows" (95 : Nat) "MergeRows$Common" "count" "I") ∈ hB := hB_in 97 rfl (by decide +kernel)
set_option maxRecDepth 20000 in
theorem lf_MR_98 : (Jvm.Cond.fieldLink "MergeRows" (98 : Nat) "MergeRows$Common" "placesA" "[I") ∈ hB := hB_in 87 rfl (by decide +kernel)
set_option maxRecDepth 20000 in
theorem lf_MR_101 : (Jvm.Cond.fieldLink "MergeRows" (101 : Nat) "MergeRows$Common" "placesB" "[I") ∈ hB := hB_in 92 rfl (by decide +kernel)
set_option maxRecDepth 20000 in
theorem lm_MR_104 : (Jvm.Cond.methodLink "MergeRows" (104 : Nat) ({ cls := "MergeRows$Hunks", name := "find", desc := "(LMergeRows$Row;LMergeRows$Row;)V" } : Jvm.MethodName)) ∈ hB := hB_in 442 rfl (by decide +kernel)
set_option maxRecDepth 20000 in
theorem lf_MR_105 : (Jvm.Cond.fieldLink "MergeRows" (105 : Nat) "MergeRows$Hunks" "count" "I") ∈ hB := hB_in 119 rfl (by decide +kernel)
set_option maxRecDepth 20000 in
theorem lf_MR_108 : (Jvm.Cond.fieldLink "MergeRows" (108 : Nat) "MergeRows$Hunks" "cells" "[I") ∈ hB := hB_in 116 rfl (by decide +kernel)
set_option maxRecDepth 20000 in
theorem lm_MR_111 : (Jvm.Cond.methodLink "MergeRows" (111 : Nat) ({ cls := "MergeRows$Merging", name := "run", desc := "(LMergeRows$Row;LMergeRows$Row;LMergeRows$Row;)V" } : Jvm.MethodName)) ∈ hB := hB_in 466 rfl (by decide +kernel)
set_option maxRecDepth 20000 in
theorem lf_MR_115 : (Jvm.Cond.fieldLink "MergeRows" (115 : Nat) "MergeRows$Merging" "outcome" "LMergeRows$Row;") ∈ hB := hB_in 205 rfl (by decide +kernel)
set_option maxRecDepth 20000 in
theorem lm_MR_119 : (Jvm.Cond.methodLink "MergeRows" (119 : Nat) ({ cls := "MergeRows", name := "fillWithOutcome", desc := "(LMergeRows$Row;LMergeRows$Row;)V" } : Jvm.MethodName)) ∈ hB := hB_in 518 rfl (by decide +kernel)
set_option maxRecDepth 20000 in
theorem lf_MR_122 : (Jvm.Cond.fieldLink "MergeRows" (122 : Nat) "MergeRows$Merging" "conflictCount" "I") ∈ hB := hB_in 209 rfl (by decide +kernel)
set_option maxRecDepth 20000 in
theorem lf_MR_127 : (Jvm.Cond.fieldLink "MergeRows" (127 : Nat) "MergeRows$Merging" "conflictCells" "[I") ∈ hB := hB_in 207 rfl (by decide +kernel)
set_option maxRecDepth 20000 in
theorem lm_MR_130 : (Jvm.Cond.methodLink "MergeRows" (130 : Nat) ({ cls := "MergeRows$Patching", name := "run", desc := "(LMergeRows$Row;LMergeRows$Row;LMergeRows$Row;)V" } : Jvm.MethodName)) ∈ hB := hB_in 542 rfl (by decide +kernel)
set_option maxRecDepth 20000 in
theorem lf_MR_131 : (Jvm.Cond.fieldLink "MergeRows" (131 : Nat) "MergeRows$Patching" "outcome" "LMergeRows$Row;") ∈ hB := hB_in 137 rfl (by decide +kernel)
set_option maxRecDepth 20000 in
theorem lf_MR_132 : (Jvm.Cond.fieldLink "MergeRows" (132 : Nat) "MergeRows$Patching" "rejected" "I") ∈ hB := hB_in 139 rfl (by decide +kernel)
set_option maxRecDepth 20000 in
theorem lf_MR_135 : (Jvm.Cond.fieldLink "MergeRows" (135 : Nat) "MergeRows$Versions" "count" "I") ∈ hB := hB_in 161 rfl (by decide +kernel)
set_option maxRecDepth 20000 in
theorem lm_MR_138 : (Jvm.Cond.methodLink "MergeRows" (138 : Nat) ({ cls := "MergeRows$Versions", name := "add", desc := "(LMergeRows$Row;)V" } : Jvm.MethodName)) ∈ hB := hB_in 570 rfl (by decide +kernel)
set_option maxRecDepth 20000 in
theorem lf_MR_146 : (Jvm.Cond.fieldLink "MergeRows" (146 : Nat) "MergeRows$Versions" "sizes" "[I") ∈ hB := hB_in 157 rfl (by decide +kernel)
set_option maxRecDepth 20000 in
theorem lf_MR_149 : (Jvm.Cond.fieldLink "MergeRows" (149 : Nat) "MergeRows$Versions" "origins" "[I") ∈ hB := hB_in 159 rfl (by decide +kernel)
set_option maxRecDepth 20000 in
theorem lm_MR_156 : (Jvm.Cond.methodLink "MergeRows" (156 : Nat) ({ cls := "MergeRows$Row", name := "become", desc := "(LMergeRows$Row;)V" } : Jvm.MethodName)) ∈ hB := hB_in 522 rfl (by decide +kernel)
set_option maxRecDepth 20000 in
theorem lm_MM_1 : (Jvm.Cond.methodLink "MergeRowsModel" (1 : Nat) ({ cls := "java/lang/Object", name := "<init>", desc := "()V" } : Jvm.MethodName)) ∈ hB := hB_in 593 rfl (by decide +kernel)
set_option maxRecDepth 20000 in
theorem lf_MM_7 : (Jvm.Cond.fieldLink "MergeRowsModel" (7 : Nat) "MergeRowsModel" "sizes" "[I") ∈ hB := hB_in 595 rfl (by decide +kernel)
set_option maxRecDepth 20000 in
theorem lf_MM_13 : (Jvm.Cond.fieldLink "MergeRowsModel" (13 : Nat) "MergeRowsModel" "lines" "[I") ∈ hB := hB_in 596 rfl (by decide +kernel)
set_option maxRecDepth 20000 in
theorem lf_MM_16 : (Jvm.Cond.fieldLink "MergeRowsModel" (16 : Nat) "MergeRowsModel" "x" "[I") ∈ hB := hB_in 599 rfl (by decide +kernel)
set_option maxRecDepth 20000 in
theorem lf_MM_19 : (Jvm.Cond.fieldLink "MergeRowsModel" (19 : Nat) "MergeRowsModel" "y" "[I") ∈ hB := hB_in 600 rfl (by decide +kernel)
set_option maxRecDepth 20000 in
theorem lf_MM_22 : (Jvm.Cond.fieldLink "MergeRowsModel" (22 : Nat) "MergeRowsModel" "best" "[I") ∈ hB := hB_in 601 rfl (by decide +kernel)
set_option maxRecDepth 20000 in
theorem lf_MM_25 : (Jvm.Cond.fieldLink "MergeRowsModel" (25 : Nat) "MergeRowsModel" "partner" "[I") ∈ hB := hB_in 602 rfl (by decide +kernel)
set_option maxRecDepth 20000 in
theorem lf_MM_28 : (Jvm.Cond.fieldLink "MergeRowsModel" (28 : Nat) "MergeRowsModel" "pairA" "[I") ∈ hB := hB_in 604 rfl (by decide +kernel)
set_option maxRecDepth 20000 in
theorem lf_MM_31 : (Jvm.Cond.fieldLink "MergeRowsModel" (31 : Nat) "MergeRowsModel" "pairB" "[I") ∈ hB := hB_in 605 rfl (by decide +kernel)
set_option maxRecDepth 20000 in
theorem lf_MM_34 : (Jvm.Cond.fieldLink "MergeRowsModel" (34 : Nat) "MergeRowsModel" "hunk" "[I") ∈ hB := hB_in 607 rfl (by decide +kernel)
set_option maxRecDepth 20000 in
theorem lf_MM_37 : (Jvm.Cond.fieldLink "MergeRowsModel" (37 : Nat) "MergeRowsModel" "part" "[I") ∈ hB := hB_in 609 rfl (by decide +kernel)
set_option maxRecDepth 20000 in
theorem lf_MM_40 : (Jvm.Cond.fieldLink "MergeRowsModel" (40 : Nat) "MergeRowsModel" "fresh" "[I") ∈ hB := hB_in 612 rfl (by decide +kernel)
set_option maxRecDepth 20000 in
theorem lf_MM_43 : (Jvm.Cond.fieldLink "MergeRowsModel" (43 : Nat) "MergeRowsModel" "left" "[I") ∈ hB := hB_in 613 rfl (by decide +kernel)
set_option maxRecDepth 20000 in
theorem lf_MM_46 : (Jvm.Cond.fieldLink "MergeRowsModel" (46 : Nat) "MergeRowsModel" "right" "[I") ∈ hB := hB_in 614 rfl (by decide +kernel)
set_option maxRecDepth 20000 in
theorem lf_MM_49 : (Jvm.Cond.fieldLink "MergeRowsModel" (49 : Nat) "MergeRowsModel" "conflict" "[I") ∈ hB := hB_in 616 rfl (by decide +kernel)
set_option maxRecDepth 20000 in
theorem lf_MM_52 : (Jvm.Cond.fieldLink "MergeRowsModel" (52 : Nat) "MergeRowsModel" "newConflict" "[I") ∈ hB := hB_in 618 rfl (by decide +kernel)
set_option maxRecDepth 20000 in
theorem lf_MM_55 : (Jvm.Cond.fieldLink "MergeRowsModel" (55 : Nat) "MergeRowsModel" "versionSizes" "[I") ∈ hB := hB_in 620 rfl (by decide +kernel)
set_option maxRecDepth 20000 in
theorem lf_MM_58 : (Jvm.Cond.fieldLink "MergeRowsModel" (58 : Nat) "MergeRowsModel" "versionLines" "[I") ∈ hB := hB_in 621 rfl (by decide +kernel)
set_option maxRecDepth 20000 in
theorem lf_MM_61 : (Jvm.Cond.fieldLink "MergeRowsModel" (61 : Nat) "MergeRowsModel" "origins" "[I") ∈ hB := hB_in 622 rfl (by decide +kernel)
set_option maxRecDepth 20000 in
theorem lf_MM_64 : (Jvm.Cond.fieldLink "MergeRowsModel" (64 : Nat) "MergeRowsModel" "thrown" "I") ∈ hB := hB_in 594 rfl (by decide +kernel)
set_option maxRecDepth 20000 in
theorem lm_MM_68 : (Jvm.Cond.methodLink "MergeRowsModel" (68 : Nat) ({ cls := "MergeRowsModel", name := "isRow", desc := "(I)Z" } : Jvm.MethodName)) ∈ hB := hB_in 690 rfl (by decide +kernel)
set_option maxRecDepth 20000 in
theorem lm_MM_72 : (Jvm.Cond.methodLink "MergeRowsModel" (72 : Nat) ({ cls := "MergeRowsModel", name := "refuse", desc := "(ZZ)Z" } : Jvm.MethodName)) ∈ hB := hB_in 693 rfl (by decide +kernel)
set_option maxRecDepth 20000 in
theorem lf_MM_76 : (Jvm.Cond.fieldLink "MergeRowsModel" (76 : Nat) "MergeRowsModel" "xs" "I") ∈ hB := hB_in 597 rfl (by decide +kernel)
set_option maxRecDepth 20000 in
theorem lf_MM_79 : (Jvm.Cond.fieldLink "MergeRowsModel" (79 : Nat) "MergeRowsModel" "ys" "I") ∈ hB := hB_in 598 rfl (by decide +kernel)
set_option maxRecDepth 20000 in
theorem lm_MM_82 : (Jvm.Cond.methodLink "MergeRowsModel" (82 : Nat) ({ cls := "MergeRowsModel", name := "first", desc := "([III)V" } : Jvm.MethodName)) ∈ hB := hB_in 717 rfl (by decide +kernel)
set_option maxRecDepth 20000 in
theorem lm_MM_86 : (Jvm.Cond.methodLink "MergeRowsModel" (86 : Nat) ({ cls := "MergeRowsModel", name := "second", desc := "([III)V" } : Jvm.MethodName)) ∈ hB := hB_in 721 rfl (by decide +kernel)
set_option maxRecDepth 20000 in
theorem lm_MM_89 : (Jvm.Cond.methodLink "MergeRowsModel" (89 : Nat) ({ cls := "MergeRowsModel", name := "rows", desc := "(II)V" } : Jvm.MethodName)) ∈ hB := hB_in 713 rfl (by decide +kernel)
set_option maxRecDepth 20000 in
theorem lm_MM_93 : (Jvm.Cond.methodLink "MergeRowsModel" (93 : Nat) ({ cls := "MergeRowsModel", name := "compare", desc := "()V" } : Jvm.MethodName)) ∈ hB := hB_in 725 rfl (by decide +kernel)
set_option maxRecDepth 20000 in
theorem lf_MM_96 : (Jvm.Cond.fieldLink "MergeRowsModel" (96 : Nat) "MergeRowsModel" "pairs" "I") ∈ hB := hB_in 603 rfl (by decide +kernel)
set_option maxRecDepth 20000 in
theorem lf_MM_99 : (Jvm.Cond.fieldLink "MergeRowsModel" (99 : Nat) "MergeRowsModel" "parts" "I") ∈ hB := hB_in 608 rfl (by decide +kernel)
set_option maxRecDepth 20000 in
theorem lm_MM_102 : (Jvm.Cond.methodLink "MergeRowsModel" (102 : Nat) ({ cls := "MergeRowsModel", name := "addPart", desc := "(IIII)V" } : Jvm.MethodName)) ∈ hB := hB_in 741 rfl (by decide +kernel)
set_option maxRecDepth 20000 in
theorem lm_MM_106 : (Jvm.Cond.methodLink "MergeRowsModel" (106 : Nat) ({ cls := "MergeRowsModel", name := "cut", desc := "()V" } : Jvm.MethodName)) ∈ hB := hB_in 737 rfl (by decide +kernel)
set_option maxRecDepth 20000 in
theorem lf_MM_109 : (Jvm.Cond.fieldLink "MergeRowsModel" (109 : Nat) "MergeRowsModel" "hunks" "I") ∈ hB := hB_in 606 rfl (by decide +kernel)
set_option maxRecDepth 20000 in
theorem lf_MM_112 : (Jvm.Cond.fieldLink "MergeRowsModel" (112 : Nat) "MergeRowsModel" "made" "I") ∈ hB := hB_in 610 rfl (by decide +kernel)
set_option maxRecDepth 20000 in
theorem lf_MM_115 : (Jvm.Cond.fieldLink "MergeRowsModel" (115 : Nat) "MergeRowsModel" "tooLong" "Z") ∈ hB := hB_in 611 rfl (by decide +kernel)
set_option maxRecDepth 20000 in
theorem lm_MM_119 : (Jvm.Cond.methodLink "MergeRowsModel" (119 : Nat) ({ cls := "MergeRowsModel", name := "write", desc := "(I)V" } : Jvm.MethodName)) ∈ hB := hB_in 765 rfl (by decide +kernel)
set_option maxRecDepth 20000 in
theorem lm_MM_123 : (Jvm.Cond.methodLink "MergeRowsModel" (123 : Nat) ({ cls := "MergeRowsModel", name := "alike", desc := "(IIIIII)Z" } : Jvm.MethodName)) ∈ hB := hB_in 757 rfl (by decide +kernel)
set_option maxRecDepth 20000 in
theorem lm_MM_127 : (Jvm.Cond.methodLink "MergeRowsModel" (127 : Nat) ({ cls := "MergeRowsModel", name := "writePart", desc := "(III)V" } : Jvm.MethodName)) ∈ hB := hB_in 761 rfl (by decide +kernel)
set_option maxRecDepth 20000 in
theorem lf_MM_131 : (Jvm.Cond.fieldLink "MergeRowsModel" (131 : Nat) "MergeRowsModel" "news" "I") ∈ hB := hB_in 617 rfl (by decide +kernel)
set_option maxRecDepth 20000 in
theorem lm_MM_134 : (Jvm.Cond.methodLink "MergeRowsModel" (134 : Nat) ({ cls := "MergeRowsModel", name := "joinParts", desc := "(IIIIIIIII)V" } : Jvm.MethodName)) ∈ hB := hB_in 753 rfl (by decide +kernel)
set_option maxRecDepth 20000 in
theorem lm_MM_138 : (Jvm.Cond.methodLink "MergeRowsModel" (138 : Nat) ({ cls := "MergeRowsModel", name := "become", desc := "(I)V" } : Jvm.MethodName)) ∈ hB := hB_in 769 rfl (by decide +kernel)
set_option maxRecDepth 20000 in
theorem lf_MM_141 : (Jvm.Cond.fieldLink "MergeRowsModel" (141 : Nat) "MergeRowsModel" "conflicts" "I") ∈ hB := hB_in 615 rfl (by decide +kernel)
set_option maxRecDepth 20000 in
theorem lm_MM_144 : (Jvm.Cond.methodLink "MergeRowsModel" (144 : Nat) ({ cls := "MergeRowsModel", name := "apart", desc := "(II)I" } : Jvm.MethodName)) ∈ hB := hB_in 781 rfl (by decide +kernel)
set_option maxRecDepth 20000 in
theorem lm_MM_148 : (Jvm.Cond.methodLink "MergeRowsModel" (148 : Nat) ({ cls := "MergeRowsModel", name := "fits", desc := "(III)Z" } : Jvm.MethodName)) ∈ hB := hB_in 784 rfl (by decide +kernel)
set_option maxRecDepth 20000 in
theorem lf_MM_152 : (Jvm.Cond.fieldLink "MergeRowsModel" (152 : Nat) "MergeRowsModel" "versions" "I") ∈ hB := hB_in 619 rfl (by decide +kernel)
set_option maxRecDepth 20000 in
theorem lm_Co_3 : (Jvm.Cond.methodLink "MergeRows$Common" (3 : Nat) ({ cls := "java/lang/Object", name := "<init>", desc := "()V" } : Jvm.MethodName)) ∈ hB := hB_in 82 rfl (by decide +kernel)
set_option maxRecDepth 20000 in
theorem lf_Co_9 : (Jvm.Cond.fieldLink "MergeRows$Common" (9 : Nat) "MergeRows$Common" "placesA" "[I") ∈ hB := hB_in 83 rfl (by decide +kernel)
set_option maxRecDepth 20000 in
theorem lf_Co_15 : (Jvm.Cond.fieldLink "MergeRows$Common" (15 : Nat) "MergeRows$Common" "placesB" "[I") ∈ hB := hB_in 88 rfl (by decide +kernel)
set_option maxRecDepth 20000 in
theorem lf_Co_18 : (Jvm.Cond.fieldLink "MergeRows$Common" (18 : Nat) "MergeRows$Common" "count" "I") ∈ hB := hB_in 93 rfl (by decide +kernel)
set_option maxRecDepth 20000 in
theorem lf_Co_22 : (Jvm.Cond.fieldLink "MergeRows$Common" (22 : Nat) "MergeRows$Common" "lengths" "[I") ∈ hB := hB_in 98 rfl (by decide +kernel)
set_option maxRecDepth 20000 in
theorem lm_Co_25 : (Jvm.Cond.methodLink "MergeRows$Common" (25 : Nat) ({ cls := "MergeRows$Common", name := "measure", desc := "(LMergeRows$Row;LMergeRows$Row;)V" } : Jvm.MethodName)) ∈ hB := hB_in 404 rfl (by decide +kernel)
set_option maxRecDepth 20000 in
theorem lf_Co_29 : (Jvm.Cond.fieldLink "MergeRows$Common" (29 : Nat) "MergeRows$Row" "count" "I") ∈ hB := hB_in 66 rfl (by decide +kernel)
set_option maxRecDepth 20000 in
theorem lf_Co_32 : (Jvm.Cond.fieldLink "MergeRows$Common" (32 : Nat) "MergeRows$Row" "lines" "[I") ∈ hB := hB_in 59 rfl (by decide +kernel)
set_option maxRecDepth 20000 in
theorem lm_Co_35 : (Jvm.Cond.methodLink "MergeRows$Common" (35 : Nat) ({ cls := "MergeRows$Row", name := "firstPlaceOf", desc := "(II)I" } : Jvm.MethodName)) ∈ hB := hB_in 415 rfl (by decide +kernel)
set_option maxRecDepth 20000 in
theorem lm_Co_39 : (Jvm.Cond.methodLink "MergeRows$Common" (39 : Nat) ({ cls := "MergeRows$Common", name := "losesNoPair", desc := "(III)Z" } : Jvm.MethodName)) ∈ hB := hB_in 419 rfl (by decide +kernel)
set_option maxRecDepth 20000 in
theorem lm_Co_43 : (Jvm.Cond.methodLink "MergeRows$Common" (43 : Nat) ({ cls := "MergeRows$Common", name := "addPair", desc := "(II)V" } : Jvm.MethodName)) ∈ hB := hB_in 423 rfl (by decide +kernel)
set_option maxRecDepth 20000 in
theorem lm_Co_47 : (Jvm.Cond.methodLink "MergeRows$Common" (47 : Nat) ({ cls := "MergeRows$Common", name := "clearEnds", desc := "(II)V" } : Jvm.MethodName)) ∈ hB := hB_in 408 rfl (by decide +kernel)
set_option maxRecDepth 20000 in
theorem lm_Co_50 : (Jvm.Cond.methodLink "MergeRows$Common" (50 : Nat) ({ cls := "java/lang/Math", name := "max", desc := "(II)I" } : Jvm.MethodName)) ∈ hB := hB_in 412 rfl (by decide +kernel)
set_option maxRecDepth 20000 in
theorem lm_Hu_3 : (Jvm.Cond.methodLink "MergeRows$Hunks" (3 : Nat) ({ cls := "java/lang/Object", name := "<init>", desc := "()V" } : Jvm.MethodName)) ∈ hB := hB_in 113 rfl (by decide +kernel)
set_option maxRecDepth 20000 in
theorem lf_Hu_11 : (Jvm.Cond.fieldLink "MergeRows$Hunks" (11 : Nat) "MergeRows$Hunks" "cells" "[I") ∈ hB := hB_in 114 rfl (by decide +kernel)
set_option maxRecDepth 20000 in
theorem lf_Hu_15 : (Jvm.Cond.fieldLink "MergeRows$Hunks" (15 : Nat) "MergeRows$Hunks" "count" "I") ∈ hB := hB_in 117 rfl (by decide +kernel)
set_option maxRecDepth 20000 in
theorem lf_Hu_19 : (Jvm.Cond.fieldLink "MergeRows$Hunks" (19 : Nat) "MergeRows$Hunks" "common" "LMergeRows$Common;") ∈ hB := hB_in 120 rfl (by decide +kernel)
set_option maxRecDepth 20000 in
theorem lm_Hu_23 : (Jvm.Cond.methodLink "MergeRows$Hunks" (23 : Nat) ({ cls := "MergeRows$Common", name := "find", desc := "(LMergeRows$Row;LMergeRows$Row;)V" } : Jvm.MethodName)) ∈ hB := hB_in 446 rfl (by decide +kernel)
set_option maxRecDepth 20000 in
theorem lf_Hu_29 : (Jvm.Cond.fieldLink "MergeRows$Hunks" (29 : Nat) "MergeRows$Common" "count" "I") ∈ hB := hB_in 94 rfl (by decide +kernel)
set_option maxRecDepth 20000 in
theorem lf_Hu_30 : (Jvm.Cond.fieldLink "MergeRows$Hunks" (30 : Nat) "MergeRows$Common" "placesA" "[I") ∈ hB := hB_in 84 rfl (by decide +kernel)
set_option maxRecDepth 20000 in
theorem lf_Hu_33 : (Jvm.Cond.fieldLink "MergeRows$Hunks" (33 : Nat) "MergeRows$Common" "placesB" "[I") ∈ hB := hB_in 89 rfl (by decide +kernel)
set_option maxRecDepth 20000 in
theorem lm_Hu_36 : (Jvm.Cond.methodLink "MergeRows$Hunks" (36 : Nat) ({ cls := "MergeRows$Hunks", name := "addUnlessEmpty", desc := "(IIII)V" } : Jvm.MethodName)) ∈ hB := hB_in 447 rfl (by decide +kernel)
set_option maxRecDepth 20000 in
theorem lf_Hu_40 : (Jvm.Cond.fieldLink "MergeRows$Hunks" (40 : Nat) "MergeRows$Row" "count" "I") ∈ hB := hB_in 69 rfl (by decide +kernel)
set_option maxRecDepth 20000 in
theorem lm_Mg_3 : (Jvm.Cond.methodLink "MergeRows$Merging" (3 : Nat) ({ cls := "java/lang/Object", name := "<init>", desc := "()V" } : Jvm.MethodName)) ∈ hB := hB_in 180 rfl (by decide +kernel)
set_option maxRecDepth 20000 in
theorem lc_Mg_9 : (Jvm.Cond.classLink "MergeRows$Merging" (9 : Nat) "MergeRows$Row") ∈ hB := hB_in 181 rfl (by decide +kernel)
set_option maxRecDepth 20000 in
theorem lm_Mg_11 : (Jvm.Cond.methodLink "MergeRows$Merging" (11 : Nat) ({ cls := "MergeRows$Row", name := "<init>", desc := "(I)V" } : Jvm.MethodName)) ∈ hB := hB_in 182 rfl (by decide +kernel)
set_option maxRecDepth 20000 in
theorem lf_Mg_14 : (Jvm.Cond.fieldLink "MergeRows$Merging" (14 : Nat) "MergeRows$Merging" "outcome" "LMergeRows$Row;") ∈ hB := hB_in 204 rfl (by decide +kernel)
set_option maxRecDepth 20000 in
theorem lf_Mg_20 : (Jvm.Cond.fieldLink "MergeRows$Merging" (20 : Nat) "MergeRows$Merging" "conflictCells" "[I") ∈ hB := hB_in 206 rfl (by decide +kernel)
set_option maxRecDepth 20000 in
theorem lf_Mg_24 : (Jvm.Cond.fieldLink "MergeRows$Merging" (24 : Nat) "MergeRows$Merging" "conflictCount" "I") ∈ hB := hB_in 208 rfl (by decide +kernel)
set_option maxRecDepth 20000 in
theorem lf_Mg_28 : (Jvm.Cond.fieldLink "MergeRows$Merging" (28 : Nat) "MergeRows$Merging" "baseAndLeft" "LMergeRows$Common;") ∈ hB := hB_in 210 rfl (by decide +kernel)
set_option maxRecDepth 20000 in
theorem lf_Mg_32 : (Jvm.Cond.fieldLink "MergeRows$Merging" (32 : Nat) "MergeRows$Merging" "baseAndRight" "LMergeRows$Common;") ∈ hB := hB_in 211 rfl (by decide +kernel)
set_option maxRecDepth 20000 in
theorem lc_Mg_35 : (Jvm.Cond.classLink "MergeRows$Merging" (35 : Nat) "MergeRows$Part") ∈ hB := hB_in 183 rfl (by decide +kernel)
set_option maxRecDepth 20000 in
theorem lm_Mg_37 : (Jvm.Cond.methodLink "MergeRows$Merging" (37 : Nat) ({ cls := "MergeRows$Part", name := "<init>", desc := "()V" } : Jvm.MethodName)) ∈ hB := hB_in 185 rfl (by decide +kernel)
set_option maxRecDepth 20000 in
theorem lf_Mg_38 : (Jvm.Cond.fieldLink "MergeRows$Merging" (38 : Nat) "MergeRows$Merging" "basePart" "LMergeRows$Part;") ∈ hB := hB_in 212 rfl (by decide +kernel)
set_option maxRecDepth 20000 in
theorem lf_Mg_42 : (Jvm.Cond.fieldLink "MergeRows$Merging" (42 : Nat) "MergeRows$Merging" "leftPart" "LMergeRows$Part;") ∈ hB := hB_in 213 rfl (by decide +kernel)
set_option maxRecDepth 20000 in
theorem lf_Mg_45 : (Jvm.Cond.fieldLink "MergeRows$Merging" (45 : Nat) "MergeRows$Merging" "rightPart" "LMergeRows$Part;") ∈ hB := hB_in 214 rfl (by decide +kernel)
set_option maxRecDepth 20000 in
theorem lm_Mg_48 : (Jvm.Cond.methodLink "MergeRows$Merging" (48 : Nat) ({ cls := "MergeRows$Common", name := "find", desc := "(LMergeRows$Row;LMergeRows$Row;)V" } : Jvm.MethodName)) ∈ hB := hB_in 470 rfl (by decide +kernel)
set_option maxRecDepth 20000 in
theorem lf_Mg_54 : (Jvm.Cond.fieldLink "MergeRows$Merging" (54 : Nat) "MergeRows$Row" "count" "I") ∈ hB := hB_in 67 rfl (by decide +kernel)
set_option maxRecDepth 20000 in
theorem lm_Mg_57 : (Jvm.Cond.methodLink "MergeRows$Merging" (57 : Nat) ({ cls := "MergeRows$Part", name := "startOn", desc := "(LMergeRows$Row;)V" } : Jvm.MethodName)) ∈ hB := hB_in 471 rfl (by decide +kernel)
set_option maxRecDepth 20000 in
theorem lm_Mg_61 : (Jvm.Cond.methodLink "MergeRows$Merging" (61 : Nat) ({ cls := "MergeRows$Merging", name := "mergeUpToAnchors", desc := "(LMergeRows$Row;)V" } : Jvm.MethodName)) ∈ hB := hB_in 475 rfl (by decide +kernel)
set_option maxRecDepth 20000 in
theorem lm_Mg_64 : (Jvm.Cond.methodLink "MergeRows$Merging" (64 : Nat) ({ cls := "MergeRows$Merging", name := "mergeParts", desc := "(III)V" } : Jvm.MethodName)) ∈ hB := hB_in 479 rfl (by decide +kernel)
set_option maxRecDepth 20000 in
theorem lf_Mg_68 : (Jvm.Cond.fieldLink "MergeRows$Merging" (68 : Nat) "MergeRows$Common" "count" "I") ∈ hB := hB_in 95 rfl (by decide +kernel)
set_option maxRecDepth 20000 in
theorem lf_Mg_69 : (Jvm.Cond.fieldLink "MergeRows$Merging" (69 : Nat) "MergeRows$Common" "placesA" "[I") ∈ hB := hB_in 85 rfl (by decide +kernel)
set_option maxRecDepth 20000 in
theorem lf_Mg_72 : (Jvm.Cond.fieldLink "MergeRows$Merging" (72 : Nat) "MergeRows$Common" "placesB" "[I") ∈ hB := hB_in 91 rfl (by decide +kernel)
set_option maxRecDepth 20000 in
theorem lm_Mg_75 : (Jvm.Cond.methodLink "MergeRows$Merging" (75 : Nat) ({ cls := "MergeRows$Row", name := "addPart", desc := "(LMergeRows$Row;II)V" } : Jvm.MethodName)) ∈ hB := hB_in 499 rfl (by decide +kernel)
set_option maxRecDepth 20000 in
theorem lm_Mg_79 : (Jvm.Cond.methodLink "MergeRows$Merging" (79 : Nat) ({ cls := "MergeRows$Merging", name := "stepPartsOverAnchor", desc := "()V" } : Jvm.MethodName)) ∈ hB := hB_in 510 rfl (by decide +kernel)
set_option maxRecDepth 20000 in
theorem lm_Mg_82 : (Jvm.Cond.methodLink "MergeRows$Merging" (82 : Nat) ({ cls := "MergeRows$Part", name := "stepOverAnchor", desc := "()V" } : Jvm.MethodName)) ∈ hB := hB_in 514 rfl (by decide +kernel)
set_option maxRecDepth 20000 in
theorem lf_Mg_85 : (Jvm.Cond.fieldLink "MergeRows$Merging" (85 : Nat) "MergeRows$Part" "end" "I") ∈ hB := hB_in 196 rfl (by decide +kernel)
set_option maxRecDepth 20000 in
theorem lm_Mg_88 : (Jvm.Cond.methodLink "MergeRows$Merging" (88 : Nat) ({ cls := "MergeRows$Part", name := "isLike", desc := "(LMergeRows$Part;)Z" } : Jvm.MethodName)) ∈ hB := hB_in 483 rfl (by decide +kernel)
set_option maxRecDepth 20000 in
theorem lm_Mg_92 : (Jvm.Cond.methodLink "MergeRows$Merging" (92 : Nat) ({ cls := "MergeRows$Merging", name := "take", desc := "(LMergeRows$Part;)V" } : Jvm.MethodName)) ∈ hB := hB_in 495 rfl (by decide +kernel)
set_option maxRecDepth 20000 in
theorem lm_Mg_96 : (Jvm.Cond.methodLink "MergeRows$Merging" (96 : Nat) ({ cls := "MergeRows$Merging", name := "addConflict", desc := "()V" } : Jvm.MethodName)) ∈ hB := hB_in 505 rfl (by decide +kernel)
set_option maxRecDepth 20000 in
theorem lf_Mg_99 : (Jvm.Cond.fieldLink "MergeRows$Merging" (99 : Nat) "MergeRows$Part" "row" "LMergeRows$Row;") ∈ hB := hB_in 192 rfl (by decide +kernel)
set_option maxRecDepth 20000 in
theorem lf_Mg_102 : (Jvm.Cond.fieldLink "MergeRows$Merging" (102 : Nat) "MergeRows$Part" "from" "I") ∈ hB := hB_in 194 rfl (by decide +kernel)
set_option maxRecDepth 20000 in
theorem lm_Mg_105 : (Jvm.Cond.methodLink "MergeRows$Merging" (105 : Nat) ({ cls := "MergeRows$Part", name := "length", desc := "()I" } : Jvm.MethodName)) ∈ hB := hB_in 509 rfl (by decide +kernel)
set_option maxRecDepth 20000 in
theorem lm_Pa_1 : (Jvm.Cond.methodLink "MergeRows$Part" (1 : Nat) ({ cls := "java/lang/Object", name := "<init>", desc := "()V" } : Jvm.MethodName)) ∈ hB := hB_in 188 rfl (by decide +kernel)
set_option maxRecDepth 20000 in
theorem lc_Pa_7 : (Jvm.Cond.classLink "MergeRows$Part" (7 : Nat) "MergeRows$Row") ∈ hB := hB_in 189 rfl (by decide +kernel)
set_option maxRecDepth 20000 in
theorem lm_Pa_9 : (Jvm.Cond.methodLink "MergeRows$Part" (9 : Nat) ({ cls := "MergeRows$Row", name := "<init>", desc := "(I)V" } : Jvm.MethodName)) ∈ hB := hB_in 190 rfl (by decide +kernel)
set_option maxRecDepth 20000 in
theorem lf_Pa_12 : (Jvm.Cond.fieldLink "MergeRows$Part" (12 : Nat) "MergeRows$Part" "row" "LMergeRows$Row;") ∈ hB := hB_in 191 rfl (by decide +kernel)
set_option maxRecDepth 20000 in
theorem lf_Pa_18 : (Jvm.Cond.fieldLink "MergeRows$Part" (18 : Nat) "MergeRows$Part" "from" "I") ∈ hB := hB_in 193 rfl (by decide +kernel)
set_option maxRecDepth 20000 in
theorem lf_Pa_22 : (Jvm.Cond.fieldLink "MergeRows$Part" (22 : Nat) "MergeRows$Part" "end" "I") ∈ hB := hB_in 195 rfl (by decide +kernel)
set_option maxRecDepth 20000 in
theorem lm_Pa_25 : (Jvm.Cond.methodLink "MergeRows$Part" (25 : Nat) ({ cls := "MergeRows$Part", name := "length", desc := "()I" } : Jvm.MethodName)) ∈ hB := hB_in 487 rfl (by decide +kernel)
set_option maxRecDepth 20000 in
theorem lf_Pa_29 : (Jvm.Cond.fieldLink "MergeRows$Part" (29 : Nat) "MergeRows$Row" "count" "I") ∈ hB := hB_in 70 rfl (by decide +kernel)
set_option maxRecDepth 20000 in
theorem lf_Pa_32 : (Jvm.Cond.fieldLink "MergeRows$Part" (32 : Nat) "MergeRows$Row" "lines" "[I") ∈ hB := hB_in 62 rfl (by decide +kernel)
set_option maxRecDepth 20000 in
theorem lm_Pa_36 : (Jvm.Cond.methodLink "MergeRows$Part" (36 : Nat) ({ cls := "MergeRows$Row", name := "hasAt", desc := "(II)Z" } : Jvm.MethodName)) ∈ hB := hB_in 491 rfl (by decide +kernel)
set_option maxRecDepth 20000 in
theorem lm_Pg_3 : (Jvm.Cond.methodLink "MergeRows$Patching" (3 : Nat) ({ cls := "java/lang/Object", name := "<init>", desc := "()V" } : Jvm.MethodName)) ∈ hB := hB_in 133 rfl (by decide +kernel)
set_option maxRecDepth 20000 in
theorem lc_Pg_9 : (Jvm.Cond.classLink "MergeRows$Patching" (9 : Nat) "MergeRows$Row") ∈ hB := hB_in 134 rfl (by decide +kernel)
set_option maxRecDepth 20000 in
theorem lm_Pg_11 : (Jvm.Cond.methodLink "MergeRows$Patching" (11 : Nat) ({ cls := "MergeRows$Row", name := "<init>", desc := "(I)V" } : Jvm.MethodName)) ∈ hB := hB_in 135 rfl (by decide +kernel)
set_option maxRecDepth 20000 in
theorem lf_Pg_14 : (Jvm.Cond.fieldLink "MergeRows$Patching" (14 : Nat) "MergeRows$Patching" "outcome" "LMergeRows$Row;") ∈ hB := hB_in 136 rfl (by decide +kernel)
set_option maxRecDepth 20000 in
theorem lf_Pg_20 : (Jvm.Cond.fieldLink "MergeRows$Patching" (20 : Nat) "MergeRows$Patching" "rejected" "I") ∈ hB := hB_in 138 rfl (by decide +kernel)
set_option maxRecDepth 20000 in
theorem lf_Pg_24 : (Jvm.Cond.fieldLink "MergeRows$Patching" (24 : Nat) "MergeRows$Patching" "hunks" "LMergeRows$Hunks;") ∈ hB := hB_in 140 rfl (by decide +kernel)
set_option maxRecDepth 20000 in
theorem lm_Pg_28 : (Jvm.Cond.methodLink "MergeRows$Patching" (28 : Nat) ({ cls := "MergeRows$Hunks", name := "find", desc := "(LMergeRows$Row;LMergeRows$Row;)V" } : Jvm.MethodName)) ∈ hB := hB_in 546 rfl (by decide +kernel)
set_option maxRecDepth 20000 in
theorem lf_Pg_34 : (Jvm.Cond.fieldLink "MergeRows$Patching" (34 : Nat) "MergeRows$Row" "count" "I") ∈ hB := hB_in 65 rfl (by decide +kernel)
set_option maxRecDepth 20000 in
theorem lf_Pg_37 : (Jvm.Cond.fieldLink "MergeRows$Patching" (37 : Nat) "MergeRows$Hunks" "count" "I") ∈ hB := hB_in 118 rfl (by decide +kernel)
set_option maxRecDepth 20000 in
theorem lf_Pg_38 : (Jvm.Cond.fieldLink "MergeRows$Patching" (38 : Nat) "MergeRows$Hunks" "cells" "[I") ∈ hB := hB_in 115 rfl (by decide +kernel)
set_option maxRecDepth 20000 in
theorem lm_Pg_42 : (Jvm.Cond.methodLink "MergeRows$Patching" (42 : Nat) ({ cls := "MergeRows$Patching", name := "nearestFit", desc := "(LMergeRows$Row;IILMergeRows$Row;II)I" } : Jvm.MethodName)) ∈ hB := hB_in 547 rfl (by decide +kernel)
set_option maxRecDepth 20000 in
theorem lm_Pg_46 : (Jvm.Cond.methodLink "MergeRows$Patching" (46 : Nat) ({ cls := "MergeRows$Row", name := "addPart", desc := "(LMergeRows$Row;II)V" } : Jvm.MethodName)) ∈ hB := hB_in 561 rfl (by decide +kernel)
set_option maxRecDepth 20000 in
theorem lm_Pg_50 : (Jvm.Cond.methodLink "MergeRows$Patching" (50 : Nat) ({ cls := "java/lang/Math", name := "abs", desc := "(I)I" } : Jvm.MethodName)) ∈ hB := hB_in 550 rfl (by decide +kernel)
set_option maxRecDepth 20000 in
theorem lm_Pg_56 : (Jvm.Cond.methodLink "MergeRows$Patching" (56 : Nat) ({ cls := "MergeRows$Patching", name := "fits", desc := "(LMergeRows$Row;IILMergeRows$Row;I)Z" } : Jvm.MethodName)) ∈ hB := hB_in 553 rfl (by decide +kernel)
set_option maxRecDepth 20000 in
theorem lm_Pg_60 : (Jvm.Cond.methodLink "MergeRows$Patching" (60 : Nat) ({ cls := "java/lang/Math", name := "max", desc := "(II)I" } : Jvm.MethodName)) ∈ hB := hB_in 556 rfl (by decide +kernel)
set_option maxRecDepth 20000 in
theorem lm_Pg_64 : (Jvm.Cond.methodLink "MergeRows$Patching" (64 : Nat) ({ cls := "java/lang/Math", name := "min", desc := "(II)I" } : Jvm.MethodName)) ∈ hB := hB_in 557 rfl (by decide +kernel)
set_option maxRecDepth 20000 in
theorem lf_Pg_67 : (Jvm.Cond.fieldLink "MergeRows$Patching" (67 : Nat) "MergeRows$Row" "lines" "[I") ∈ hB := hB_in 60 rfl (by decide +kernel)
set_option maxRecDepth 20000 in
theorem lm_Pg_70 : (Jvm.Cond.methodLink "MergeRows$Patching" (70 : Nat) ({ cls := "MergeRows$Row", name := "hasAt", desc := "(II)Z" } : Jvm.MethodName)) ∈ hB := hB_in 560 rfl (by decide +kernel)
set_option maxRecDepth 20000 in
theorem lm_Ro_3 : (Jvm.Cond.methodLink "MergeRows$Row" (3 : Nat) ({ cls := "java/lang/Object", name := "<init>", desc := "()V" } : Jvm.MethodName)) ∈ hB := hB_in 57 rfl (by decide +kernel)
set_option maxRecDepth 20000 in
theorem lf_Ro_9 : (Jvm.Cond.fieldLink "MergeRows$Row" (9 : Nat) "MergeRows$Row" "lines" "[I") ∈ hB := hB_in 58 rfl (by decide +kernel)
set_option maxRecDepth 20000 in
theorem lf_Ro_15 : (Jvm.Cond.fieldLink "MergeRows$Row" (15 : Nat) "MergeRows$Row" "count" "I") ∈ hB := hB_in 63 rfl (by decide +kernel)
set_option maxRecDepth 20000 in
theorem lm_Ro_19 : (Jvm.Cond.methodLink "MergeRows$Row" (19 : Nat) ({ cls := "java/lang/Math", name := "max", desc := "(II)I" } : Jvm.MethodName)) ∈ hB := hB_in 503 rfl (by decide +kernel)
set_option maxRecDepth 20000 in
theorem lm_Ro_25 : (Jvm.Cond.methodLink "MergeRows$Row" (25 : Nat) ({ cls := "MergeRows$Row", name := "add", desc := "(I)V" } : Jvm.MethodName)) ∈ hB := hB_in 504 rfl (by decide +kernel)
set_option maxRecDepth 20000 in
theorem lm_Ro_29 : (Jvm.Cond.methodLink "MergeRows$Row" (29 : Nat) ({ cls := "MergeRows$Row", name := "addPart", desc := "(LMergeRows$Row;II)V" } : Jvm.MethodName)) ∈ hB := hB_in 526 rfl (by decide +kernel)
set_option maxRecDepth 20000 in
theorem lm_Ve_3 : (Jvm.Cond.methodLink "MergeRows$Versions" (3 : Nat) ({ cls := "java/lang/Object", name := "<init>", desc := "()V" } : Jvm.MethodName)) ∈ hB := hB_in 153 rfl (by decide +kernel)
set_option maxRecDepth 20000 in
theorem lf_Ve_9 : (Jvm.Cond.fieldLink "MergeRows$Versions" (9 : Nat) "MergeRows$Versions" "sizes" "[I") ∈ hB := hB_in 156 rfl (by decide +kernel)
set_option maxRecDepth 20000 in
theorem lf_Ve_15 : (Jvm.Cond.fieldLink "MergeRows$Versions" (15 : Nat) "MergeRows$Versions" "origins" "[I") ∈ hB := hB_in 158 rfl (by decide +kernel)
set_option maxRecDepth 20000 in
theorem lf_Ve_18 : (Jvm.Cond.fieldLink "MergeRows$Versions" (18 : Nat) "MergeRows$Versions" "count" "I") ∈ hB := hB_in 160 rfl (by decide +kernel)
set_option maxRecDepth 20000 in
theorem lc_Ve_22 : (Jvm.Cond.classLink "MergeRows$Versions" (22 : Nat) "MergeRows$Row") ∈ hB := hB_in 154 rfl (by decide +kernel)
set_option maxRecDepth 20000 in
theorem lm_Ve_24 : (Jvm.Cond.methodLink "MergeRows$Versions" (24 : Nat) ({ cls := "MergeRows$Row", name := "<init>", desc := "(I)V" } : Jvm.MethodName)) ∈ hB := hB_in 155 rfl (by decide +kernel)
set_option maxRecDepth 20000 in
theorem lf_Ve_27 : (Jvm.Cond.fieldLink "MergeRows$Versions" (27 : Nat) "MergeRows$Versions" "newest" "LMergeRows$Row;") ∈ hB := hB_in 162 rfl (by decide +kernel)
set_option maxRecDepth 20000 in
theorem lf_Ve_31 : (Jvm.Cond.fieldLink "MergeRows$Versions" (31 : Nat) "MergeRows$Versions" "common" "LMergeRows$Common;") ∈ hB := hB_in 163 rfl (by decide +kernel)
set_option maxRecDepth 20000 in
theorem lm_Ve_35 : (Jvm.Cond.methodLink "MergeRows$Versions" (35 : Nat) ({ cls := "MergeRows$Versions", name := "fillOrigins", desc := "(LMergeRows$Row;)V" } : Jvm.MethodName)) ∈ hB := hB_in 574 rfl (by decide +kernel)
set_option maxRecDepth 20000 in
theorem lf_Ve_39 : (Jvm.Cond.fieldLink "MergeRows$Versions" (39 : Nat) "MergeRows$Row" "count" "I") ∈ hB := hB_in 68 rfl (by decide +kernel)
set_option maxRecDepth 20000 in
theorem lm_Ve_40 : (Jvm.Cond.methodLink "MergeRows$Versions" (40 : Nat) ({ cls := "MergeRows$Row", name := "become", desc := "(LMergeRows$Row;)V" } : Jvm.MethodName)) ∈ hB := hB_in 579 rfl (by decide +kernel)
set_option maxRecDepth 20000 in
theorem lm_Ve_43 : (Jvm.Cond.methodLink "MergeRows$Versions" (43 : Nat) ({ cls := "MergeRows$Common", name := "find", desc := "(LMergeRows$Row;LMergeRows$Row;)V" } : Jvm.MethodName)) ∈ hB := hB_in 578 rfl (by decide +kernel)
set_option maxRecDepth 20000 in
theorem lf_Ve_49 : (Jvm.Cond.fieldLink "MergeRows$Versions" (49 : Nat) "MergeRows$Common" "count" "I") ∈ hB := hB_in 96 rfl (by decide +kernel)
set_option maxRecDepth 20000 in
theorem lf_Ve_50 : (Jvm.Cond.fieldLink "MergeRows$Versions" (50 : Nat) "MergeRows$Common" "placesB" "[I") ∈ hB := hB_in 90 rfl (by decide +kernel)
set_option maxRecDepth 20000 in
theorem lf_Ve_53 : (Jvm.Cond.fieldLink "MergeRows$Versions" (53 : Nat) "MergeRows$Common" "placesA" "[I") ∈ hB := hB_in 86 rfl (by decide +kernel)
set_option maxRecDepth 20000 in
theorem lm_La_7 : (Jvm.Cond.methodLink "MergeRowsLaw" (7 : Nat) ({ cls := "MergeRows", name := "put", desc := "(II)I" } : Jvm.MethodName)) ∈ hB := hB_in 259 rfl (by decide +kernel)
set_option maxRecDepth 20000 in
theorem lm_La_17 : (Jvm.Cond.methodLink "MergeRowsLaw" (17 : Nat) ({ cls := "MergeRows", name := "clear", desc := "(I)V" } : Jvm.MethodName)) ∈ hB := hB_in 358 rfl (by decide +kernel)
set_option maxRecDepth 20000 in
theorem lm_La_21 : (Jvm.Cond.methodLink "MergeRowsLaw" (21 : Nat) ({ cls := "MergeRows", name := "size", desc := "(I)I" } : Jvm.MethodName)) ∈ hB := hB_in 365 rfl (by decide +kernel)
set_option maxRecDepth 20000 in
theorem lm_La_25 : (Jvm.Cond.methodLink "MergeRowsLaw" (25 : Nat) ({ cls := "MergeRows", name := "get", desc := "(II)I" } : Jvm.MethodName)) ∈ hB := hB_in 373 rfl (by decide +kernel)
set_option maxRecDepth 20000 in
theorem lm_La_30 : (Jvm.Cond.methodLink "MergeRowsLaw" (30 : Nat) ({ cls := "MergeRows", name := "common", desc := "(II)I" } : Jvm.MethodName)) ∈ hB := hB_in 396 rfl (by decide +kernel)
set_option maxRecDepth 20000 in
theorem lm_La_33 : (Jvm.Cond.methodLink "MergeRowsLaw" (33 : Nat) ({ cls := "MergeRows", name := "pair", desc := "(II)I" } : Jvm.MethodName)) ∈ hB := hB_in 430 rfl (by decide +kernel)
set_option maxRecDepth 20000 in
theorem lm_La_36 : (Jvm.Cond.methodLink "MergeRowsLaw" (36 : Nat) ({ cls := "MergeRows", name := "hunks", desc := "(II)I" } : Jvm.MethodName)) ∈ hB := hB_in 438 rfl (by decide +kernel)
set_option maxRecDepth 20000 in
theorem lm_La_39 : (Jvm.Cond.methodLink "MergeRowsLaw" (39 : Nat) ({ cls := "MergeRows", name := "hunk", desc := "(II)I" } : Jvm.MethodName)) ∈ hB := hB_in 454 rfl (by decide +kernel)
set_option maxRecDepth 20000 in
theorem lm_La_42 : (Jvm.Cond.methodLink "MergeRowsLaw" (42 : Nat) ({ cls := "MergeRows", name := "merge", desc := "(IIII)I" } : Jvm.MethodName)) ∈ hB := hB_in 462 rfl (by decide +kernel)
set_option maxRecDepth 20000 in
theorem lm_La_46 : (Jvm.Cond.methodLink "MergeRowsLaw" (46 : Nat) ({ cls := "MergeRows", name := "conflict", desc := "(II)I" } : Jvm.MethodName)) ∈ hB := hB_in 530 rfl (by decide +kernel)
set_option maxRecDepth 20000 in
theorem lm_La_49 : (Jvm.Cond.methodLink "MergeRowsLaw" (49 : Nat) ({ cls := "MergeRows", name := "patch", desc := "(IIII)I" } : Jvm.MethodName)) ∈ hB := hB_in 538 rfl (by decide +kernel)
set_option maxRecDepth 20000 in
theorem lm_La_52 : (Jvm.Cond.methodLink "MergeRowsLaw" (52 : Nat) ({ cls := "MergeRows", name := "commit", desc := "(I)I" } : Jvm.MethodName)) ∈ hB := hB_in 565 rfl (by decide +kernel)
set_option maxRecDepth 20000 in
theorem lm_La_55 : (Jvm.Cond.methodLink "MergeRowsLaw" (55 : Nat) ({ cls := "MergeRows", name := "origin", desc := "(II)I" } : Jvm.MethodName)) ∈ hB := hB_in 583 rfl (by decide +kernel)
set_option maxRecDepth 20000 in
theorem lm_La_62 : (Jvm.Cond.methodLink "MergeRowsLaw" (62 : Nat) ({ cls := "MergeRowsLaw", name := "put", desc := "(LMergeRows;II[J)I" } : Jvm.MethodName)) ∈ hB := hB_in 254 rfl (by decide +kernel)
set_option maxRecDepth 20000 in
theorem lm_La_67 : (Jvm.Cond.methodLink "MergeRowsLaw" (67 : Nat) ({ cls := "MergeRowsModel", name := "put", desc := "(II)I" } : Jvm.MethodName)) ∈ hB := hB_in 686 rfl (by decide +kernel)
set_option maxRecDepth 20000 in
theorem lm_La_68 : (Jvm.Cond.methodLink "MergeRowsLaw" (68 : Nat) ({ cls := "MergeRowsModel", name := "thrown", desc := "()I" } : Jvm.MethodName)) ∈ hB := hB_in 682 rfl (by decide +kernel)
set_option maxRecDepth 20000 in
theorem lm_La_72 : (Jvm.Cond.methodLink "MergeRowsLaw" (72 : Nat) ({ cls := "MergeRowsLaw", name := "clear", desc := "(LMergeRows;I)I" } : Jvm.MethodName)) ∈ hB := hB_in 355 rfl (by decide +kernel)
set_option maxRecDepth 20000 in
theorem lm_La_75 : (Jvm.Cond.methodLink "MergeRowsLaw" (75 : Nat) ({ cls := "MergeRowsModel", name := "clear", desc := "(I)V" } : Jvm.MethodName)) ∈ hB := hB_in 697 rfl (by decide +kernel)
set_option maxRecDepth 20000 in
theorem lm_La_76 : (Jvm.Cond.methodLink "MergeRowsLaw" (76 : Nat) ({ cls := "MergeRowsLaw", name := "size", desc := "(LMergeRows;I[J)I" } : Jvm.MethodName)) ∈ hB := hB_in 362 rfl (by decide +kernel)
set_option maxRecDepth 20000 in
theorem lm_La_79 : (Jvm.Cond.methodLink "MergeRowsLaw" (79 : Nat) ({ cls := "MergeRowsModel", name := "size", desc := "(I)I" } : Jvm.MethodName)) ∈ hB := hB_in 701 rfl (by decide +kernel)
set_option maxRecDepth 20000 in
theorem lm_La_80 : (Jvm.Cond.methodLink "MergeRowsLaw" (80 : Nat) ({ cls := "MergeRowsLaw", name := "get", desc := "(LMergeRows;II[J)I" } : Jvm.MethodName)) ∈ hB := hB_in 369 rfl (by decide +kernel)
set_option maxRecDepth 20000 in
theorem lm_La_82 : (Jvm.Cond.methodLink "MergeRowsLaw" (82 : Nat) ({ cls := "MergeRowsModel", name := "get", desc := "(II)I" } : Jvm.MethodName)) ∈ hB := hB_in 705 rfl (by decide +kernel)
set_option maxRecDepth 20000 in
theorem lm_La_83 : (Jvm.Cond.methodLink "MergeRowsLaw" (83 : Nat) ({ cls := "MergeRowsLaw", name := "common", desc := "(LMergeRows;II[J)I" } : Jvm.MethodName)) ∈ hB := hB_in 393 rfl (by decide +kernel)
set_option maxRecDepth 20000 in
theorem lm_La_85 : (Jvm.Cond.methodLink "MergeRowsLaw" (85 : Nat) ({ cls := "MergeRowsModel", name := "common", desc := "(II)I" } : Jvm.MethodName)) ∈ hB := hB_in 709 rfl (by decide +kernel)
set_option maxRecDepth 20000 in
theorem lm_La_86 : (Jvm.Cond.methodLink "MergeRowsLaw" (86 : Nat) ({ cls := "MergeRowsLaw", name := "pair", desc := "(LMergeRows;II[J)I" } : Jvm.MethodName)) ∈ hB := hB_in 427 rfl (by decide +kernel)
set_option maxRecDepth 20000 in
theorem lm_La_88 : (Jvm.Cond.methodLink "MergeRowsLaw" (88 : Nat) ({ cls := "MergeRowsModel", name := "pair", desc := "(II)I" } : Jvm.MethodName)) ∈ hB := hB_in 729 rfl (by decide +kernel)
set_option maxRecDepth 20000 in
theorem lm_La_89 : (Jvm.Cond.methodLink "MergeRowsLaw" (89 : Nat) ({ cls := "MergeRowsLaw", name := "hunks", desc := "(LMergeRows;II[J)I" } : Jvm.MethodName)) ∈ hB := hB_in 435 rfl (by decide +kernel)
set_option maxRecDepth 20000 in
theorem lm_La_91 : (Jvm.Cond.methodLink "MergeRowsLaw" (91 : Nat) ({ cls := "MergeRowsModel", name := "hunks", desc := "(II)I" } : Jvm.MethodName)) ∈ hB := hB_in 733 rfl (by decide +kernel)
set_option maxRecDepth 20000 in
theorem lm_La_92 : (Jvm.Cond.methodLink "MergeRowsLaw" (92 : Nat) ({ cls := "MergeRowsLaw", name := "hunk", desc := "(LMergeRows;II[J)I" } : Jvm.MethodName)) ∈ hB := hB_in 451 rfl (by decide +kernel)
set_option maxRecDepth 20000 in
theorem lm_La_94 : (Jvm.Cond.methodLink "MergeRowsLaw" (94 : Nat) ({ cls := "MergeRowsModel", name := "hunk", desc := "(II)I" } : Jvm.MethodName)) ∈ hB := hB_in 745 rfl (by decide +kernel)
set_option maxRecDepth 20000 in
theorem lm_La_95 : (Jvm.Cond.methodLink "MergeRowsLaw" (95 : Nat) ({ cls := "MergeRowsLaw", name := "merge", desc := "(LMergeRows;IIII[J)I" } : Jvm.MethodName)) ∈ hB := hB_in 459 rfl (by decide +kernel)
set_option maxRecDepth 20000 in
theorem lm_La_98 : (Jvm.Cond.methodLink "MergeRowsLaw" (98 : Nat) ({ cls := "MergeRowsModel", name := "merge", desc := "(IIII)I" } : Jvm.MethodName)) ∈ hB := hB_in 749 rfl (by decide +kernel)
set_option maxRecDepth 20000 in
theorem lm_La_99 : (Jvm.Cond.methodLink "MergeRowsLaw" (99 : Nat) ({ cls := "MergeRowsLaw", name := "conflict", desc := "(LMergeRows;II[J)I" } : Jvm.MethodName)) ∈ hB := hB_in 527 rfl (by decide +kernel)
set_option maxRecDepth 20000 in
theorem lm_La_101 : (Jvm.Cond.methodLink "MergeRowsLaw" (101 : Nat) ({ cls := "MergeRowsModel", name := "conflict", desc := "(II)I" } : Jvm.MethodName)) ∈ hB := hB_in 773 rfl (by decide +kernel)
set_option maxRecDepth 20000 in
theorem lm_La_102 : (Jvm.Cond.methodLink "MergeRowsLaw" (102 : Nat) ({ cls := "MergeRowsLaw", name := "patch", desc := "(LMergeRows;IIII[J)I" } : Jvm.MethodName)) ∈ hB := hB_in 535 rfl (by decide +kernel)
set_option maxRecDepth 20000 in
theorem lm_La_104 : (Jvm.Cond.methodLink "MergeRowsLaw" (104 : Nat) ({ cls := "MergeRowsModel", name := "patch", desc := "(IIII)I" } : Jvm.MethodName)) ∈ hB := hB_in 777 rfl (by decide +kernel)
set_option maxRecDepth 20000 in
theorem lm_La_105 : (Jvm.Cond.methodLink "MergeRowsLaw" (105 : Nat) ({ cls := "MergeRowsLaw", name := "commit", desc := "(LMergeRows;I[J)I" } : Jvm.MethodName)) ∈ hB := hB_in 562 rfl (by decide +kernel)
set_option maxRecDepth 20000 in
theorem lm_La_107 : (Jvm.Cond.methodLink "MergeRowsLaw" (107 : Nat) ({ cls := "MergeRowsModel", name := "commit", desc := "(I)I" } : Jvm.MethodName)) ∈ hB := hB_in 788 rfl (by decide +kernel)
set_option maxRecDepth 20000 in
theorem lm_La_108 : (Jvm.Cond.methodLink "MergeRowsLaw" (108 : Nat) ({ cls := "MergeRowsLaw", name := "origin", desc := "(LMergeRows;II[J)I" } : Jvm.MethodName)) ∈ hB := hB_in 580 rfl (by decide +kernel)
set_option maxRecDepth 20000 in
theorem lm_La_110 : (Jvm.Cond.methodLink "MergeRowsLaw" (110 : Nat) ({ cls := "MergeRowsModel", name := "origin", desc := "(II)I" } : Jvm.MethodName)) ∈ hB := hB_in 792 rfl (by decide +kernel)
