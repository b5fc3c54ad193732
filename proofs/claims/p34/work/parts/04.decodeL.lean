theorem dL_at_0 : decode cL_at 0 = .ok (.iload_n 1, 1) := by decide +kernel
theorem dL_at_1 : decode cL_at 1 = .ok (.aload_n 0, 1) := by decide +kernel
theorem dL_at_2 : decode cL_at 2 = .ok (.arraylength, 1) := by decide +kernel
theorem dL_at_3 : decode cL_at 3 = .ok (.if_icmp .ge 9, 3) := by decide +kernel
theorem dL_at_6 : decode cL_at 6 = .ok (.aload_n 0, 1) := by decide +kernel
theorem dL_at_7 : decode cL_at 7 = .ok (.iload_n 1, 1) := by decide +kernel
theorem dL_at_8 : decode cL_at 8 = .ok (.iaload, 1) := by decide +kernel
theorem dL_at_9 : decode cL_at 9 = .ok (.goto 4, 3) := by decide +kernel
theorem dL_at_12 : decode cL_at 12 = .ok (.iconst 0, 1) := by decide +kernel
theorem dL_at_13 : decode cL_at 13 = .ok (.ireturn, 1) := by decide +kernel
theorem dL_some_0 : decode cL_some 0 = .ok (.iload_n 0, 1) := by decide +kernel
theorem dL_some_1 : decode cL_some 1 = .ok (.iload_n 1, 1) := by decide +kernel
theorem dL_some_2 : decode cL_some 2 = .ok (.irem, 1) := by decide +kernel
theorem dL_some_3 : decode cL_some 3 = .ok (.istore_n 2, 1) := by decide +kernel
theorem dL_some_4 : decode cL_some 4 = .ok (.iload_n 2, 1) := by decide +kernel
theorem dL_some_5 : decode cL_some 5 = .ok (.ifCond .ge 9, 3) := by decide +kernel
theorem dL_some_8 : decode cL_some 8 = .ok (.iload_n 2, 1) := by decide +kernel
theorem dL_some_9 : decode cL_some 9 = .ok (.iload_n 1, 1) := by decide +kernel
theorem dL_some_10 : decode cL_some 10 = .ok (.iadd, 1) := by decide +kernel
theorem dL_some_11 : decode cL_some 11 = .ok (.goto 4, 3) := by decide +kernel
theorem dL_some_14 : decode cL_some 14 = .ok (.iload_n 2, 1) := by decide +kernel
theorem dL_some_15 : decode cL_some 15 = .ok (.ireturn, 1) := by decide +kernel
theorem dL_writes_0 : decode cL_writes 0 = .ok (.aload_n 0, 1) := by decide +kernel
theorem dL_writes_1 : decode cL_writes 1 = .ok (.iload_n 1, 1) := by decide +kernel
theorem dL_writes_2 : decode cL_writes 2 = .ok (.iload_n 2, 1) := by decide +kernel
theorem dL_writes_3 : decode cL_writes 3 = .ok (.invokevirtual 7, 3) := by decide +kernel
theorem dL_writes_6 : decode cL_writes 6 = .ok (.ireturn, 1) := by decide +kernel
theorem dL_writes_7 : decode cL_writes 7 = .ok (.astore_n 3, 1) := by decide +kernel
theorem dL_writes_8 : decode cL_writes 8 = .ok (.sipush (-1001), 3) := by decide +kernel
theorem dL_writes_11 : decode cL_writes 11 = .ok (.ireturn, 1) := by decide +kernel
theorem dL_writes_12 : decode cL_writes 12 = .ok (.astore_n 3, 1) := by decide +kernel
theorem dL_writes_13 : decode cL_writes 13 = .ok (.sipush (-1002), 3) := by decide +kernel
theorem dL_writes_16 : decode cL_writes 16 = .ok (.ireturn, 1) := by decide +kernel
theorem dL_erases_0 : decode cL_erases 0 = .ok (.aload_n 0, 1) := by decide +kernel
theorem dL_erases_1 : decode cL_erases 1 = .ok (.iload_n 1, 1) := by decide +kernel
theorem dL_erases_2 : decode cL_erases 2 = .ok (.invokevirtual 17, 3) := by decide +kernel
theorem dL_erases_5 : decode cL_erases 5 = .ok (.ireturn, 1) := by decide +kernel
theorem dL_erases_6 : decode cL_erases 6 = .ok (.astore_n 2, 1) := by decide +kernel
theorem dL_erases_7 : decode cL_erases 7 = .ok (.sipush (-1001), 3) := by decide +kernel
theorem dL_erases_10 : decode cL_erases 10 = .ok (.ireturn, 1) := by decide +kernel
theorem dL_erases_11 : decode cL_erases 11 = .ok (.astore_n 2, 1) := by decide +kernel
theorem dL_erases_12 : decode cL_erases 12 = .ok (.sipush (-1002), 3) := by decide +kernel
theorem dL_erases_15 : decode cL_erases 15 = .ok (.ireturn, 1) := by decide +kernel
theorem dL_moves_0 : decode cL_moves 0 = .ok (.aload_n 0, 1) := by decide +kernel
theorem dL_moves_1 : decode cL_moves 1 = .ok (.iload_n 1, 1) := by decide +kernel
theorem dL_moves_2 : decode cL_moves 2 = .ok (.iload_n 2, 1) := by decide +kernel
theorem dL_moves_3 : decode cL_moves 3 = .ok (.invokevirtual 23, 3) := by decide +kernel
theorem dL_moves_6 : decode cL_moves 6 = .ok (.ireturn, 1) := by decide +kernel
theorem dL_moves_7 : decode cL_moves 7 = .ok (.astore_n 3, 1) := by decide +kernel
theorem dL_moves_8 : decode cL_moves 8 = .ok (.sipush (-1001), 3) := by decide +kernel
theorem dL_moves_11 : decode cL_moves 11 = .ok (.ireturn, 1) := by decide +kernel
theorem dL_moves_12 : decode cL_moves 12 = .ok (.astore_n 3, 1) := by decide +kernel
theorem dL_moves_13 : decode cL_moves 13 = .ok (.sipush (-1002), 3) := by decide +kernel
theorem dL_moves_16 : decode cL_moves 16 = .ok (.ireturn, 1) := by decide +kernel
theorem dL_moves_17 : decode cL_moves 17 = .ok (.astore_n 3, 1) := by decide +kernel
theorem dL_moves_18 : decode cL_moves 18 = .ok (.sipush (-1003), 3) := by decide +kernel
theorem dL_moves_21 : decode cL_moves 21 = .ok (.ireturn, 1) := by decide +kernel
theorem dL_lies_0 : decode cL_lies 0 = .ok (.aload_n 0, 1) := by decide +kernel
theorem dL_lies_1 : decode cL_lies 1 = .ok (.iload_n 1, 1) := by decide +kernel
theorem dL_lies_2 : decode cL_lies 2 = .ok (.invokevirtual 28, 3) := by decide +kernel
theorem dL_lies_5 : decode cL_lies 5 = .ok (.ireturn, 1) := by decide +kernel
theorem dL_lies_6 : decode cL_lies 6 = .ok (.astore_n 2, 1) := by decide +kernel
theorem dL_lies_7 : decode cL_lies 7 = .ok (.sipush (-1001), 3) := by decide +kernel
theorem dL_lies_10 : decode cL_lies 10 = .ok (.ireturn, 1) := by decide +kernel
theorem dL_lies_11 : decode cL_lies 11 = .ok (.astore_n 2, 1) := by decide +kernel
theorem dL_lies_12 : decode cL_lies 12 = .ok (.sipush (-1002), 3) := by decide +kernel
theorem dL_lies_15 : decode cL_lies 15 = .ok (.ireturn, 1) := by decide +kernel
theorem dL_commits_0 : decode cL_commits 0 = .ok (.aload_n 0, 1) := by decide +kernel
theorem dL_commits_1 : decode cL_commits 1 = .ok (.invokevirtual 31, 3) := by decide +kernel
theorem dL_commits_4 : decode cL_commits 4 = .ok (.ireturn, 1) := by decide +kernel
theorem dL_commits_5 : decode cL_commits 5 = .ok (.astore_n 1, 1) := by decide +kernel
theorem dL_commits_6 : decode cL_commits 6 = .ok (.sipush (-1001), 3) := by decide +kernel
theorem dL_commits_9 : decode cL_commits 9 = .ok (.ireturn, 1) := by decide +kernel
theorem dL_branches_0 : decode cL_branches 0 = .ok (.aload_n 0, 1) := by decide +kernel
theorem dL_branches_1 : decode cL_branches 1 = .ok (.iload_n 1, 1) := by decide +kernel
theorem dL_branches_2 : decode cL_branches 2 = .ok (.invokevirtual 35, 3) := by decide +kernel
theorem dL_branches_5 : decode cL_branches 5 = .ok (.ireturn, 1) := by decide +kernel
theorem dL_branches_6 : decode cL_branches 6 = .ok (.astore_n 2, 1) := by decide +kernel
theorem dL_branches_7 : decode cL_branches 7 = .ok (.sipush (-1001), 3) := by decide +kernel
theorem dL_branches_10 : decode cL_branches 10 = .ok (.ireturn, 1) := by decide +kernel
theorem dL_branches_11 : decode cL_branches 11 = .ok (.astore_n 2, 1) := by decide +kernel
theorem dL_branches_12 : decode cL_branches 12 = .ok (.sipush (-1002), 3) := by decide +kernel
theorem dL_branches_15 : decode cL_branches 15 = .ok (.ireturn, 1) := by decide +kernel
theorem dL_goes_0 : decode cL_goes 0 = .ok (.aload_n 0, 1) := by decide +kernel
theorem dL_goes_1 : decode cL_goes 1 = .ok (.iload_n 1, 1) := by decide +kernel
theorem dL_goes_2 : decode cL_goes 2 = .ok (.invokevirtual 38, 3) := by decide +kernel
theorem dL_goes_5 : decode cL_goes 5 = .ok (.ireturn, 1) := by decide +kernel
theorem dL_goes_6 : decode cL_goes 6 = .ok (.astore_n 2, 1) := by decide +kernel
theorem dL_goes_7 : decode cL_goes 7 = .ok (.sipush (-1001), 3) := by decide +kernel
theorem dL_goes_10 : decode cL_goes 10 = .ok (.ireturn, 1) := by decide +kernel
theorem dL_goes_11 : decode cL_goes 11 = .ok (.astore_n 2, 1) := by decide +kernel
theorem dL_goes_12 : decode cL_goes 12 = .ok (.sipush (-1002), 3) := by decide +kernel
theorem dL_goes_15 : decode cL_goes 15 = .ok (.ireturn, 1) := by decide +kernel
theorem dL_goes_16 : decode cL_goes 16 = .ok (.astore_n 2, 1) := by decide +kernel
theorem dL_goes_17 : decode cL_goes 17 = .ok (.sipush (-1003), 3) := by decide +kernel
theorem dL_goes_20 : decode cL_goes 20 = .ok (.ireturn, 1) := by decide +kernel
theorem dL_resets_0 : decode cL_resets 0 = .ok (.aload_n 0, 1) := by decide +kernel
theorem dL_resets_1 : decode cL_resets 1 = .ok (.iload_n 1, 1) := by decide +kernel
theorem dL_resets_2 : decode cL_resets 2 = .ok (.invokevirtual 41, 3) := by decide +kernel
theorem dL_resets_5 : decode cL_resets 5 = .ok (.ireturn, 1) := by decide +kernel
theorem dL_resets_6 : decode cL_resets 6 = .ok (.astore_n 2, 1) := by decide +kernel
theorem dL_resets_7 : decode cL_resets 7 = .ok (.sipush (-1001), 3) := by decide +kernel
theorem dL_resets_10 : decode cL_resets 10 = .ok (.ireturn, 1) := by decide +kernel
theorem dL_merges_0 : decode cL_merges 0 = .ok (.aload_n 0, 1) := by decide +kernel
theorem dL_merges_1 : decode cL_merges 1 = .ok (.iload_n 1, 1) := by decide +kernel
theorem dL_merges_2 : decode cL_merges 2 = .ok (.invokevirtual 44, 3) := by decide +kernel
theorem dL_merges_5 : decode cL_merges 5 = .ok (.ireturn, 1) := by decide +kernel
theorem dL_merges_6 : decode cL_merges 6 = .ok (.astore_n 2, 1) := by decide +kernel
theorem dL_merges_7 : decode cL_merges 7 = .ok (.sipush (-1001), 3) := by decide +kernel
theorem dL_merges_10 : decode cL_merges 10 = .ok (.ireturn, 1) := by decide +kernel
theorem dL_merges_11 : decode cL_merges 11 = .ok (.astore_n 2, 1) := by decide +kernel
theorem dL_merges_12 : decode cL_merges 12 = .ok (.sipush (-1002), 3) := by decide +kernel
theorem dL_merges_15 : decode cL_merges 15 = .ok (.ireturn, 1) := by decide +kernel
theorem dL_merges_16 : decode cL_merges 16 = .ok (.astore_n 2, 1) := by decide +kernel
theorem dL_merges_17 : decode cL_merges 17 = .ok (.sipush (-1003), 3) := by decide +kernel
theorem dL_merges_20 : decode cL_merges 20 = .ok (.ireturn, 1) := by decide +kernel
theorem dL_merges_21 : decode cL_merges 21 = .ok (.astore_n 2, 1) := by decide +kernel
theorem dL_merges_22 : decode cL_merges 22 = .ok (.sipush (-1004), 3) := by decide +kernel
theorem dL_merges_25 : decode cL_merges 25 = .ok (.ireturn, 1) := by decide +kernel
theorem dL_puts_0 : decode cL_puts 0 = .ok (.aload_n 0, 1) := by decide +kernel
theorem dL_puts_1 : decode cL_puts 1 = .ok (.iload_n 1, 1) := by decide +kernel
theorem dL_puts_2 : decode cL_puts 2 = .ok (.invokevirtual 49, 3) := by decide +kernel
theorem dL_puts_5 : decode cL_puts 5 = .ok (.ireturn, 1) := by decide +kernel
theorem dL_puts_6 : decode cL_puts 6 = .ok (.astore_n 2, 1) := by decide +kernel
theorem dL_puts_7 : decode cL_puts 7 = .ok (.sipush (-1001), 3) := by decide +kernel
theorem dL_puts_10 : decode cL_puts 10 = .ok (.ireturn, 1) := by decide +kernel
theorem dL_puts_11 : decode cL_puts 11 = .ok (.astore_n 2, 1) := by decide +kernel
theorem dL_puts_12 : decode cL_puts 12 = .ok (.sipush (-1002), 3) := by decide +kernel
theorem dL_puts_15 : decode cL_puts 15 = .ok (.ireturn, 1) := by decide +kernel
theorem dL_puts_16 : decode cL_puts 16 = .ok (.astore_n 2, 1) := by decide +kernel
theorem dL_puts_17 : decode cL_puts 17 = .ok (.sipush (-1003), 3) := by decide +kernel
theorem dL_puts_20 : decode cL_puts 20 = .ok (.ireturn, 1) := by decide +kernel
theorem dL_puts_21 : decode cL_puts 21 = .ok (.astore_n 2, 1) := by decide +kernel
theorem dL_puts_22 : decode cL_puts 22 = .ok (.sipush (-1004), 3) := by decide +kernel
theorem dL_puts_25 : decode cL_puts 25 = .ok (.ireturn, 1) := by decide +kernel
theorem dL_head_0 : decode cL_head 0 = .ok (.aload_n 0, 1) := by decide +kernel
theorem dL_head_1 : decode cL_head 1 = .ok (.iload_n 1, 1) := by decide +kernel
theorem dL_head_2 : decode cL_head 2 = .ok (.invokevirtual 52, 3) := by decide +kernel
theorem dL_head_5 : decode cL_head 5 = .ok (.ireturn, 1) := by decide +kernel
theorem dL_head_6 : decode cL_head 6 = .ok (.astore_n 2, 1) := by decide +kernel
theorem dL_head_7 : decode cL_head 7 = .ok (.sipush (-1001), 3) := by decide +kernel
theorem dL_head_10 : decode cL_head 10 = .ok (.ireturn, 1) := by decide +kernel
theorem dL_head_11 : decode cL_head 11 = .ok (.astore_n 2, 1) := by decide +kernel
theorem dL_head_12 : decode cL_head 12 = .ok (.sipush (-1002), 3) := by decide +kernel
theorem dL_head_15 : decode cL_head 15 = .ok (.ireturn, 1) := by decide +kernel
theorem dL_had_0 : decode cL_had 0 = .ok (.aload_n 0, 1) := by decide +kernel
theorem dL_had_1 : decode cL_had 1 = .ok (.iload_n 1, 1) := by decide +kernel
theorem dL_had_2 : decode cL_had 2 = .ok (.iload_n 2, 1) := by decide +kernel
theorem dL_had_3 : decode cL_had 3 = .ok (.invokevirtual 55, 3) := by decide +kernel
theorem dL_had_6 : decode cL_had 6 = .ok (.ireturn, 1) := by decide +kernel
theorem dL_had_7 : decode cL_had 7 = .ok (.astore_n 3, 1) := by decide +kernel
theorem dL_had_8 : decode cL_had 8 = .ok (.sipush (-1001), 3) := by decide +kernel
theorem dL_had_11 : decode cL_had 11 = .ok (.ireturn, 1) := by decide +kernel
theorem dL_had_12 : decode cL_had 12 = .ok (.astore_n 3, 1) := by decide +kernel
theorem dL_had_13 : decode cL_had 13 = .ok (.sipush (-1002), 3) := by decide +kernel
theorem dL_had_16 : decode cL_had 16 = .ok (.ireturn, 1) := by decide +kernel
theorem dL_parent_0 : decode cL_parent 0 = .ok (.aload_n 0, 1) := by decide +kernel
theorem dL_parent_1 : decode cL_parent 1 = .ok (.iload_n 1, 1) := by decide +kernel
theorem dL_parent_2 : decode cL_parent 2 = .ok (.iload_n 2, 1) := by decide +kernel
theorem dL_parent_3 : decode cL_parent 3 = .ok (.invokevirtual 58, 3) := by decide +kernel
theorem dL_parent_6 : decode cL_parent 6 = .ok (.ireturn, 1) := by decide +kernel
theorem dL_parent_7 : decode cL_parent 7 = .ok (.astore_n 3, 1) := by decide +kernel
theorem dL_parent_8 : decode cL_parent 8 = .ok (.sipush (-1001), 3) := by decide +kernel
theorem dL_parent_11 : decode cL_parent 11 = .ok (.ireturn, 1) := by decide +kernel
theorem dL_parent_12 : decode cL_parent 12 = .ok (.astore_n 3, 1) := by decide +kernel
theorem dL_parent_13 : decode cL_parent 13 = .ok (.sipush (-1002), 3) := by decide +kernel
theorem dL_parent_16 : decode cL_parent 16 = .ok (.ireturn, 1) := by decide +kernel
theorem dL_moved_0 : decode cL_moved 0 = .ok (.aload_n 0, 1) := by decide +kernel
theorem dL_moved_1 : decode cL_moved 1 = .ok (.iload_n 1, 1) := by decide +kernel
theorem dL_moved_2 : decode cL_moved 2 = .ok (.iload_n 2, 1) := by decide +kernel
theorem dL_moved_3 : decode cL_moved 3 = .ok (.iload_n 3, 1) := by decide +kernel
theorem dL_moved_4 : decode cL_moved 4 = .ok (.invokevirtual 61, 3) := by decide +kernel
theorem dL_moved_7 : decode cL_moved 7 = .ok (.ireturn, 1) := by decide +kernel
theorem dL_moved_8 : decode cL_moved 8 = .ok (.astore 4, 2) := by decide +kernel
theorem dL_moved_10 : decode cL_moved 10 = .ok (.sipush (-1001), 3) := by decide +kernel
theorem dL_moved_13 : decode cL_moved 13 = .ok (.ireturn, 1) := by decide +kernel
theorem dL_moved_14 : decode cL_moved 14 = .ok (.astore 4, 2) := by decide +kernel
theorem dL_moved_16 : decode cL_moved 16 = .ok (.sipush (-1002), 3) := by decide +kernel
theorem dL_moved_19 : decode cL_moved 19 = .ok (.ireturn, 1) := by decide +kernel
theorem dL_last_0 : decode cL_last 0 = .ok (.aload_n 0, 1) := by decide +kernel
theorem dL_last_1 : decode cL_last 1 = .ok (.iload_n 1, 1) := by decide +kernel
theorem dL_last_2 : decode cL_last 2 = .ok (.invokevirtual 65, 3) := by decide +kernel
theorem dL_last_5 : decode cL_last 5 = .ok (.ireturn, 1) := by decide +kernel
theorem dL_last_6 : decode cL_last 6 = .ok (.astore_n 2, 1) := by decide +kernel
theorem dL_last_7 : decode cL_last 7 = .ok (.sipush (-1001), 3) := by decide +kernel
theorem dL_last_10 : decode cL_last 10 = .ok (.ireturn, 1) := by decide +kernel
theorem dL_last_11 : decode cL_last 11 = .ok (.astore_n 2, 1) := by decide +kernel
theorem dL_last_12 : decode cL_last 12 = .ok (.sipush (-1002), 3) := by decide +kernel
theorem dL_last_15 : decode cL_last 15 = .ok (.ireturn, 1) := by decide +kernel
theorem dL_depth_0 : decode cL_depth 0 = .ok (.aload_n 0, 1) := by decide +kernel
theorem dL_depth_1 : decode cL_depth 1 = .ok (.iload_n 1, 1) := by decide +kernel
theorem dL_depth_2 : decode cL_depth 2 = .ok (.invokevirtual 68, 3) := by decide +kernel
theorem dL_depth_5 : decode cL_depth 5 = .ok (.ireturn, 1) := by decide +kernel
theorem dL_depth_6 : decode cL_depth 6 = .ok (.astore_n 2, 1) := by decide +kernel
theorem dL_depth_7 : decode cL_depth 7 = .ok (.sipush (-1001), 3) := by decide +kernel
theorem dL_depth_10 : decode cL_depth 10 = .ok (.ireturn, 1) := by decide +kernel
theorem dL_from_0 : decode cL_from 0 = .ok (.aload_n 0, 1) := by decide +kernel
theorem dL_from_1 : decode cL_from 1 = .ok (.iload_n 1, 1) := by decide +kernel
theorem dL_from_2 : decode cL_from 2 = .ok (.invokevirtual 71, 3) := by decide +kernel
theorem dL_from_5 : decode cL_from 5 = .ok (.ireturn, 1) := by decide +kernel
theorem dL_from_6 : decode cL_from 6 = .ok (.astore_n 2, 1) := by decide +kernel
theorem dL_from_7 : decode cL_from 7 = .ok (.sipush (-1001), 3) := by decide +kernel
theorem dL_from_10 : decode cL_from 10 = .ok (.ireturn, 1) := by decide +kernel
theorem dL_text_0 : decode cL_text 0 = .ok (.iload_n 0, 1) := by decide +kernel
theorem dL_text_1 : decode cL_text 1 = .ok (.ldc 74, 2) := by decide +kernel
theorem dL_text_3 : decode cL_text 3 = .ok (.invokestatic 75, 3) := by decide +kernel
theorem dL_text_6 : decode cL_text 6 = .ok (.istore_n 1, 1) := by decide +kernel
theorem dL_text_7 : decode cL_text 7 = .ok (.sipush 1000, 3) := by decide +kernel
theorem dL_text_10 : decode cL_text 10 = .ok (.iload_n 1, 1) := by decide +kernel
theorem dL_text_11 : decode cL_text 11 = .ok (.iconst 2, 1) := by decide +kernel
theorem dL_text_12 : decode cL_text 12 = .ok (.irem, 1) := by decide +kernel
theorem dL_text_13 : decode cL_text 13 = .ok (.imul, 1) := by decide +kernel
theorem dL_text_14 : decode cL_text 14 = .ok (.bipush 100, 2) := by decide +kernel
theorem dL_text_16 : decode cL_text 16 = .ok (.iload_n 1, 1) := by decide +kernel
theorem dL_text_17 : decode cL_text 17 = .ok (.iconst 2, 1) := by decide +kernel
theorem dL_text_18 : decode cL_text 18 = .ok (.idiv, 1) := by decide +kernel
theorem dL_text_19 : decode cL_text 19 = .ok (.iconst 2, 1) := by decide +kernel
theorem dL_text_20 : decode cL_text 20 = .ok (.irem, 1) := by decide +kernel
theorem dL_text_21 : decode cL_text 21 = .ok (.imul, 1) := by decide +kernel
theorem dL_text_22 : decode cL_text 22 = .ok (.iadd, 1) := by decide +kernel
theorem dL_text_23 : decode cL_text 23 = .ok (.bipush 10, 2) := by decide +kernel
theorem dL_text_25 : decode cL_text 25 = .ok (.iload_n 1, 1) := by decide +kernel
theorem dL_text_26 : decode cL_text 26 = .ok (.iconst 4, 1) := by decide +kernel
theorem dL_text_27 : decode cL_text 27 = .ok (.idiv, 1) := by decide +kernel
theorem dL_text_28 : decode cL_text 28 = .ok (.iconst 3, 1) := by decide +kernel
theorem dL_text_29 : decode cL_text 29 = .ok (.irem, 1) := by decide +kernel
theorem dL_text_30 : decode cL_text 30 = .ok (.imul, 1) := by decide +kernel
theorem dL_text_31 : decode cL_text 31 = .ok (.iadd, 1) := by decide +kernel
theorem dL_text_32 : decode cL_text 32 = .ok (.iload_n 1, 1) := by decide +kernel
theorem dL_text_33 : decode cL_text 33 = .ok (.bipush 12, 2) := by decide +kernel
theorem dL_text_35 : decode cL_text 35 = .ok (.idiv, 1) := by decide +kernel
theorem dL_text_36 : decode cL_text 36 = .ok (.iconst 4, 1) := by decide +kernel
theorem dL_text_37 : decode cL_text 37 = .ok (.irem, 1) := by decide +kernel
theorem dL_text_38 : decode cL_text 38 = .ok (.iadd, 1) := by decide +kernel
theorem dL_text_39 : decode cL_text 39 = .ok (.ireturn, 1) := by decide +kernel
theorem dL_sum_0 : decode cL_sum 0 = .ok (.aload_n 0, 1) := by decide +kernel
theorem dL_sum_1 : decode cL_sum 1 = .ok (.invokevirtual 80, 3) := by decide +kernel
theorem dL_sum_4 : decode cL_sum 4 = .ok (.i2l, 1) := by decide +kernel
theorem dL_sum_5 : decode cL_sum 5 = .ok (.ldc2_w 83, 3) := by decide +kernel
theorem dL_sum_8 : decode cL_sum 8 = .ok (.aload_n 0, 1) := by decide +kernel
theorem dL_sum_9 : decode cL_sum 9 = .ok (.invokevirtual 85, 3) := by decide +kernel
theorem dL_sum_12 : decode cL_sum 12 = .ok (.i2l, 1) := by decide +kernel
theorem dL_sum_13 : decode cL_sum 13 = .ok (.lmul, 1) := by decide +kernel
theorem dL_sum_14 : decode cL_sum 14 = .ok (.ladd, 1) := by decide +kernel
theorem dL_sum_15 : decode cL_sum 15 = .ok (.ldc2_w 88, 3) := by decide +kernel
theorem dL_sum_18 : decode cL_sum 18 = .ok (.aload_n 0, 1) := by decide +kernel
theorem dL_sum_19 : decode cL_sum 19 = .ok (.invokevirtual 90, 3) := by decide +kernel
theorem dL_sum_22 : decode cL_sum 22 = .ok (.i2l, 1) := by decide +kernel
theorem dL_sum_23 : decode cL_sum 23 = .ok (.lmul, 1) := by decide +kernel
theorem dL_sum_24 : decode cL_sum 24 = .ok (.ladd, 1) := by decide +kernel
theorem dL_sum_25 : decode cL_sum 25 = .ok (.ldc2_w 93, 3) := by decide +kernel
theorem dL_sum_28 : decode cL_sum 28 = .ok (.aload_n 0, 1) := by decide +kernel
theorem dL_sum_29 : decode cL_sum 29 = .ok (.invokevirtual 95, 3) := by decide +kernel
theorem dL_sum_32 : decode cL_sum 32 = .ok (.i2l, 1) := by decide +kernel
theorem dL_sum_33 : decode cL_sum 33 = .ok (.lmul, 1) := by decide +kernel
theorem dL_sum_34 : decode cL_sum 34 = .ok (.ladd, 1) := by decide +kernel
theorem dL_sum_35 : decode cL_sum 35 = .ok (.ldc2_w 98, 3) := by decide +kernel
theorem dL_sum_38 : decode cL_sum 38 = .ok (.aload_n 0, 1) := by decide +kernel
theorem dL_sum_39 : decode cL_sum 39 = .ok (.invokevirtual 100, 3) := by decide +kernel
theorem dL_sum_42 : decode cL_sum 42 = .ok (.lmul, 1) := by decide +kernel
theorem dL_sum_43 : decode cL_sum 43 = .ok (.ladd, 1) := by decide +kernel
theorem dL_sum_44 : decode cL_sum 44 = .ok (.lstore_n 1, 1) := by decide +kernel
theorem dL_sum_45 : decode cL_sum 45 = .ok (.iconst 0, 1) := by decide +kernel
theorem dL_sum_46 : decode cL_sum 46 = .ok (.istore_n 3, 1) := by decide +kernel
theorem dL_sum_47 : decode cL_sum 47 = .ok (.iload_n 3, 1) := by decide +kernel
theorem dL_sum_48 : decode cL_sum 48 = .ok (.aload_n 0, 1) := by decide +kernel
theorem dL_sum_49 : decode cL_sum 49 = .ok (.invokevirtual 80, 3) := by decide +kernel
theorem dL_sum_52 : decode cL_sum 52 = .ok (.if_icmp .ge 66, 3) := by decide +kernel
theorem dL_sum_55 : decode cL_sum 55 = .ok (.ldc2_w 83, 3) := by decide +kernel
theorem dL_sum_58 : decode cL_sum 58 = .ok (.lload_n 1, 1) := by decide +kernel
theorem dL_sum_59 : decode cL_sum 59 = .ok (.lmul, 1) := by decide +kernel
theorem dL_sum_60 : decode cL_sum 60 = .ok (.aload_n 0, 1) := by decide +kernel
theorem dL_sum_61 : decode cL_sum 61 = .ok (.iload_n 3, 1) := by decide +kernel
theorem dL_sum_62 : decode cL_sum 62 = .ok (.iconst 0, 1) := by decide +kernel
theorem dL_sum_63 : decode cL_sum 63 = .ok (.invokestatic 104, 3) := by decide +kernel
theorem dL_sum_66 : decode cL_sum 66 = .ok (.i2l, 1) := by decide +kernel
theorem dL_sum_67 : decode cL_sum 67 = .ok (.ladd, 1) := by decide +kernel
theorem dL_sum_68 : decode cL_sum 68 = .ok (.ldc2_w 108, 3) := by decide +kernel
theorem dL_sum_71 : decode cL_sum 71 = .ok (.aload_n 0, 1) := by decide +kernel
theorem dL_sum_72 : decode cL_sum 72 = .ok (.iload_n 3, 1) := by decide +kernel
theorem dL_sum_73 : decode cL_sum 73 = .ok (.iconst 1, 1) := by decide +kernel
theorem dL_sum_74 : decode cL_sum 74 = .ok (.invokestatic 104, 3) := by decide +kernel
theorem dL_sum_77 : decode cL_sum 77 = .ok (.i2l, 1) := by decide +kernel
theorem dL_sum_78 : decode cL_sum 78 = .ok (.lmul, 1) := by decide +kernel
theorem dL_sum_79 : decode cL_sum 79 = .ok (.ladd, 1) := by decide +kernel
theorem dL_sum_80 : decode cL_sum 80 = .ok (.lstore_n 1, 1) := by decide +kernel
theorem dL_sum_81 : decode cL_sum 81 = .ok (.iconst 0, 1) := by decide +kernel
theorem dL_sum_82 : decode cL_sum 82 = .ok (.istore 4, 2) := by decide +kernel
theorem dL_sum_84 : decode cL_sum 84 = .ok (.iload 4, 2) := by decide +kernel
theorem dL_sum_86 : decode cL_sum 86 = .ok (.bipush 8, 2) := by decide +kernel
theorem dL_sum_88 : decode cL_sum 88 = .ok (.if_icmp .ge 24, 3) := by decide +kernel
theorem dL_sum_91 : decode cL_sum 91 = .ok (.ldc2_w 83, 3) := by decide +kernel
theorem dL_sum_94 : decode cL_sum 94 = .ok (.lload_n 1, 1) := by decide +kernel
theorem dL_sum_95 : decode cL_sum 95 = .ok (.lmul, 1) := by decide +kernel
theorem dL_sum_96 : decode cL_sum 96 = .ok (.aload_n 0, 1) := by decide +kernel
theorem dL_sum_97 : decode cL_sum 97 = .ok (.iload_n 3, 1) := by decide +kernel
theorem dL_sum_98 : decode cL_sum 98 = .ok (.iload 4, 2) := by decide +kernel
theorem dL_sum_100 : decode cL_sum 100 = .ok (.invokestatic 110, 3) := by decide +kernel
theorem dL_sum_103 : decode cL_sum 103 = .ok (.i2l, 1) := by decide +kernel
theorem dL_sum_104 : decode cL_sum 104 = .ok (.ladd, 1) := by decide +kernel
theorem dL_sum_105 : decode cL_sum 105 = .ok (.lstore_n 1, 1) := by decide +kernel
theorem dL_sum_106 : decode cL_sum 106 = .ok (.iinc 4 1, 3) := by decide +kernel
theorem dL_sum_109 : decode cL_sum 109 = .ok (.goto (-25), 3) := by decide +kernel
theorem dL_sum_112 : decode cL_sum 112 = .ok (.iinc 3 1, 3) := by decide +kernel
theorem dL_sum_115 : decode cL_sum 115 = .ok (.goto (-68), 3) := by decide +kernel
theorem dL_sum_118 : decode cL_sum 118 = .ok (.iconst 0, 1) := by decide +kernel
theorem dL_sum_119 : decode cL_sum 119 = .ok (.istore_n 3, 1) := by decide +kernel
theorem dL_sum_120 : decode cL_sum 120 = .ok (.iload_n 3, 1) := by decide +kernel
theorem dL_sum_121 : decode cL_sum 121 = .ok (.bipush 8, 2) := by decide +kernel
theorem dL_sum_123 : decode cL_sum 123 = .ok (.if_icmp .ge 47, 3) := by decide +kernel
theorem dL_sum_126 : decode cL_sum 126 = .ok (.ldc2_w 83, 3) := by decide +kernel
theorem dL_sum_129 : decode cL_sum 129 = .ok (.lload_n 1, 1) := by decide +kernel
theorem dL_sum_130 : decode cL_sum 130 = .ok (.lmul, 1) := by decide +kernel
theorem dL_sum_131 : decode cL_sum 131 = .ok (.aload_n 0, 1) := by decide +kernel
theorem dL_sum_132 : decode cL_sum 132 = .ok (.iload_n 3, 1) := by decide +kernel
theorem dL_sum_133 : decode cL_sum 133 = .ok (.invokestatic 113, 3) := by decide +kernel
theorem dL_sum_136 : decode cL_sum 136 = .ok (.i2l, 1) := by decide +kernel
theorem dL_sum_137 : decode cL_sum 137 = .ok (.ladd, 1) := by decide +kernel
theorem dL_sum_138 : decode cL_sum 138 = .ok (.ldc2_w 117, 3) := by decide +kernel
theorem dL_sum_141 : decode cL_sum 141 = .ok (.aload_n 0, 1) := by decide +kernel
theorem dL_sum_142 : decode cL_sum 142 = .ok (.iload_n 3, 1) := by decide +kernel
theorem dL_sum_143 : decode cL_sum 143 = .ok (.invokestatic 119, 3) := by decide +kernel
theorem dL_sum_146 : decode cL_sum 146 = .ok (.i2l, 1) := by decide +kernel
theorem dL_sum_147 : decode cL_sum 147 = .ok (.lmul, 1) := by decide +kernel
theorem dL_sum_148 : decode cL_sum 148 = .ok (.ladd, 1) := by decide +kernel
theorem dL_sum_149 : decode cL_sum 149 = .ok (.ldc2_w 93, 3) := by decide +kernel
theorem dL_sum_152 : decode cL_sum 152 = .ok (.aload_n 0, 1) := by decide +kernel
theorem dL_sum_153 : decode cL_sum 153 = .ok (.iload_n 3, 1) := by decide +kernel
theorem dL_sum_154 : decode cL_sum 154 = .ok (.bipush 6, 2) := by decide +kernel
theorem dL_sum_156 : decode cL_sum 156 = .ok (.irem, 1) := by decide +kernel
theorem dL_sum_157 : decode cL_sum 157 = .ok (.invokestatic 122, 3) := by decide +kernel
theorem dL_sum_160 : decode cL_sum 160 = .ok (.i2l, 1) := by decide +kernel
theorem dL_sum_161 : decode cL_sum 161 = .ok (.lmul, 1) := by decide +kernel
theorem dL_sum_162 : decode cL_sum 162 = .ok (.ladd, 1) := by decide +kernel
theorem dL_sum_163 : decode cL_sum 163 = .ok (.lstore_n 1, 1) := by decide +kernel
theorem dL_sum_164 : decode cL_sum 164 = .ok (.iinc 3 1, 3) := by decide +kernel
theorem dL_sum_167 : decode cL_sum 167 = .ok (.goto (-47), 3) := by decide +kernel
theorem dL_sum_170 : decode cL_sum 170 = .ok (.lload_n 1, 1) := by decide +kernel
theorem dL_sum_171 : decode cL_sum 171 = .ok (.lreturn, 1) := by decide +kernel
theorem dL_isRelated_0 : decode cL_isRelated 0 = .ok (.aload_n 0, 1) := by decide +kernel
theorem dL_isRelated_1 : decode cL_isRelated 1 = .ok (.iload_n 1, 1) := by decide +kernel
theorem dL_isRelated_2 : decode cL_isRelated 2 = .ok (.iload_n 2, 1) := by decide +kernel
theorem dL_isRelated_3 : decode cL_isRelated 3 = .ok (.invokevirtual 124, 3) := by decide +kernel
theorem dL_isRelated_6 : decode cL_isRelated 6 = .ok (.istore_n 3, 1) := by decide +kernel
theorem dL_isRelated_7 : decode cL_isRelated 7 = .ok (.iload_n 3, 1) := by decide +kernel
theorem dL_isRelated_8 : decode cL_isRelated 8 = .ok (.aload_n 0, 1) := by decide +kernel
theorem dL_isRelated_9 : decode cL_isRelated 9 = .ok (.iload_n 1, 1) := by decide +kernel
theorem dL_isRelated_10 : decode cL_isRelated 10 = .ok (.iload_n 2, 1) := by decide +kernel
theorem dL_isRelated_11 : decode cL_isRelated 11 = .ok (.invokevirtual 127, 3) := by decide +kernel
theorem dL_isRelated_14 : decode cL_isRelated 14 = .ok (.if_icmp .ne 53, 3) := by decide +kernel
theorem dL_isRelated_17 : decode cL_isRelated 17 = .ok (.iload_n 3, 1) := by decide +kernel
theorem dL_isRelated_18 : decode cL_isRelated 18 = .ok (.aload_n 0, 1) := by decide +kernel
theorem dL_isRelated_19 : decode cL_isRelated 19 = .ok (.iload_n 2, 1) := by decide +kernel
theorem dL_isRelated_20 : decode cL_isRelated 20 = .ok (.iload_n 1, 1) := by decide +kernel
theorem dL_isRelated_21 : decode cL_isRelated 21 = .ok (.invokevirtual 124, 3) := by decide +kernel
theorem dL_isRelated_24 : decode cL_isRelated 24 = .ok (.if_icmp .ne 43, 3) := by decide +kernel
theorem dL_isRelated_27 : decode cL_isRelated 27 = .ok (.aload_n 0, 1) := by decide +kernel
theorem dL_isRelated_28 : decode cL_isRelated 28 = .ok (.iload_n 1, 1) := by decide +kernel
theorem dL_isRelated_29 : decode cL_isRelated 29 = .ok (.iload_n 2, 1) := by decide +kernel
theorem dL_isRelated_30 : decode cL_isRelated 30 = .ok (.invokevirtual 130, 3) := by decide +kernel
theorem dL_isRelated_33 : decode cL_isRelated 33 = .ok (.iconst 1, 1) := by decide +kernel
theorem dL_isRelated_34 : decode cL_isRelated 34 = .ok (.if_icmp .lt 33, 3) := by decide +kernel
theorem dL_isRelated_37 : decode cL_isRelated 37 = .ok (.aload_n 0, 1) := by decide +kernel
theorem dL_isRelated_38 : decode cL_isRelated 38 = .ok (.iload_n 1, 1) := by decide +kernel
theorem dL_isRelated_39 : decode cL_isRelated 39 = .ok (.iload_n 2, 1) := by decide +kernel
theorem dL_isRelated_40 : decode cL_isRelated 40 = .ok (.invokevirtual 130, 3) := by decide +kernel
theorem dL_isRelated_43 : decode cL_isRelated 43 = .ok (.aload_n 0, 1) := by decide +kernel
theorem dL_isRelated_44 : decode cL_isRelated 44 = .ok (.iload_n 2, 1) := by decide +kernel
theorem dL_isRelated_45 : decode cL_isRelated 45 = .ok (.iload_n 1, 1) := by decide +kernel
theorem dL_isRelated_46 : decode cL_isRelated 46 = .ok (.invokevirtual 130, 3) := by decide +kernel
theorem dL_isRelated_49 : decode cL_isRelated 49 = .ok (.if_icmp .ne 18, 3) := by decide +kernel
theorem dL_isRelated_52 : decode cL_isRelated 52 = .ok (.aload_n 0, 1) := by decide +kernel
theorem dL_isRelated_53 : decode cL_isRelated 53 = .ok (.iload_n 1, 1) := by decide +kernel
theorem dL_isRelated_54 : decode cL_isRelated 54 = .ok (.iload_n 2, 1) := by decide +kernel
theorem dL_isRelated_55 : decode cL_isRelated 55 = .ok (.invokevirtual 133, 3) := by decide +kernel
theorem dL_isRelated_58 : decode cL_isRelated 58 = .ok (.aload_n 0, 1) := by decide +kernel
theorem dL_isRelated_59 : decode cL_isRelated 59 = .ok (.iload_n 1, 1) := by decide +kernel
theorem dL_isRelated_60 : decode cL_isRelated 60 = .ok (.iload_n 2, 1) := by decide +kernel
theorem dL_isRelated_61 : decode cL_isRelated 61 = .ok (.invokevirtual 137, 3) := by decide +kernel
theorem dL_isRelated_64 : decode cL_isRelated 64 = .ok (.if_icmp .eq 5, 3) := by decide +kernel
theorem dL_isRelated_67 : decode cL_isRelated 67 = .ok (.iconst 0, 1) := by decide +kernel
theorem dL_isRelated_68 : decode cL_isRelated 68 = .ok (.ireturn, 1) := by decide +kernel
theorem dL_isRelated_69 : decode cL_isRelated 69 = .ok (.aload_n 0, 1) := by decide +kernel
theorem dL_isRelated_70 : decode cL_isRelated 70 = .ok (.iload_n 3, 1) := by decide +kernel
theorem dL_isRelated_71 : decode cL_isRelated 71 = .ok (.iload_n 1, 1) := by decide +kernel
theorem dL_isRelated_72 : decode cL_isRelated 72 = .ok (.invokevirtual 133, 3) := by decide +kernel
theorem dL_isRelated_75 : decode cL_isRelated 75 = .ok (.ifCond .eq 58, 3) := by decide +kernel
theorem dL_isRelated_78 : decode cL_isRelated 78 = .ok (.aload_n 0, 1) := by decide +kernel
theorem dL_isRelated_79 : decode cL_isRelated 79 = .ok (.iload_n 3, 1) := by decide +kernel
theorem dL_isRelated_80 : decode cL_isRelated 80 = .ok (.iload_n 2, 1) := by decide +kernel
theorem dL_isRelated_81 : decode cL_isRelated 81 = .ok (.invokevirtual 133, 3) := by decide +kernel
theorem dL_isRelated_84 : decode cL_isRelated 84 = .ok (.ifCond .eq 49, 3) := by decide +kernel
theorem dL_isRelated_87 : decode cL_isRelated 87 = .ok (.aload_n 0, 1) := by decide +kernel
theorem dL_isRelated_88 : decode cL_isRelated 88 = .ok (.iload_n 1, 1) := by decide +kernel
theorem dL_isRelated_89 : decode cL_isRelated 89 = .ok (.iload_n 2, 1) := by decide +kernel
theorem dL_isRelated_90 : decode cL_isRelated 90 = .ok (.invokevirtual 133, 3) := by decide +kernel
theorem dL_isRelated_93 : decode cL_isRelated 93 = .ok (.iload_n 3, 1) := by decide +kernel
theorem dL_isRelated_94 : decode cL_isRelated 94 = .ok (.iload_n 1, 1) := by decide +kernel
theorem dL_isRelated_95 : decode cL_isRelated 95 = .ok (.if_icmp .ne 7, 3) := by decide +kernel
theorem dL_isRelated_98 : decode cL_isRelated 98 = .ok (.iconst 1, 1) := by decide +kernel
theorem dL_isRelated_99 : decode cL_isRelated 99 = .ok (.goto 4, 3) := by decide +kernel
theorem dL_isRelated_102 : decode cL_isRelated 102 = .ok (.iconst 0, 1) := by decide +kernel
theorem dL_isRelated_103 : decode cL_isRelated 103 = .ok (.if_icmp .ne 30, 3) := by decide +kernel
theorem dL_isRelated_106 : decode cL_isRelated 106 = .ok (.aload_n 0, 1) := by decide +kernel
theorem dL_isRelated_107 : decode cL_isRelated 107 = .ok (.iload_n 1, 1) := by decide +kernel
theorem dL_isRelated_108 : decode cL_isRelated 108 = .ok (.iload_n 2, 1) := by decide +kernel
theorem dL_isRelated_109 : decode cL_isRelated 109 = .ok (.invokevirtual 133, 3) := by decide +kernel
theorem dL_isRelated_112 : decode cL_isRelated 112 = .ok (.ifCond .eq 23, 3) := by decide +kernel
theorem dL_isRelated_115 : decode cL_isRelated 115 = .ok (.iload_n 1, 1) := by decide +kernel
theorem dL_isRelated_116 : decode cL_isRelated 116 = .ok (.iload_n 2, 1) := by decide +kernel
theorem dL_isRelated_117 : decode cL_isRelated 117 = .ok (.if_icmp .eq 18, 3) := by decide +kernel
theorem dL_isRelated_120 : decode cL_isRelated 120 = .ok (.aload_n 0, 1) := by decide +kernel
theorem dL_isRelated_121 : decode cL_isRelated 121 = .ok (.iload_n 1, 1) := by decide +kernel
theorem dL_isRelated_122 : decode cL_isRelated 122 = .ok (.invokevirtual 140, 3) := by decide +kernel
theorem dL_isRelated_125 : decode cL_isRelated 125 = .ok (.aload_n 0, 1) := by decide +kernel
theorem dL_isRelated_126 : decode cL_isRelated 126 = .ok (.iload_n 2, 1) := by decide +kernel
theorem dL_isRelated_127 : decode cL_isRelated 127 = .ok (.invokevirtual 140, 3) := by decide +kernel
theorem dL_isRelated_130 : decode cL_isRelated 130 = .ok (.if_icmp .lt 5, 3) := by decide +kernel
theorem dL_isRelated_133 : decode cL_isRelated 133 = .ok (.iconst 0, 1) := by decide +kernel
theorem dL_isRelated_134 : decode cL_isRelated 134 = .ok (.ireturn, 1) := by decide +kernel
theorem dL_isRelated_135 : decode cL_isRelated 135 = .ok (.aload_n 0, 1) := by decide +kernel
theorem dL_isRelated_136 : decode cL_isRelated 136 = .ok (.iload_n 1, 1) := by decide +kernel
theorem dL_isRelated_137 : decode cL_isRelated 137 = .ok (.iload_n 2, 1) := by decide +kernel
theorem dL_isRelated_138 : decode cL_isRelated 138 = .ok (.invokevirtual 143, 3) := by decide +kernel
theorem dL_isRelated_141 : decode cL_isRelated 141 = .ok (.aload_n 0, 1) := by decide +kernel
theorem dL_isRelated_142 : decode cL_isRelated 142 = .ok (.iload_n 2, 1) := by decide +kernel
theorem dL_isRelated_143 : decode cL_isRelated 143 = .ok (.iload_n 1, 1) := by decide +kernel
theorem dL_isRelated_144 : decode cL_isRelated 144 = .ok (.invokevirtual 143, 3) := by decide +kernel
theorem dL_isRelated_147 : decode cL_isRelated 147 = .ok (.if_icmp .ne 25, 3) := by decide +kernel
theorem dL_isRelated_150 : decode cL_isRelated 150 = .ok (.aload_n 0, 1) := by decide +kernel
theorem dL_isRelated_151 : decode cL_isRelated 151 = .ok (.iload_n 1, 1) := by decide +kernel
theorem dL_isRelated_152 : decode cL_isRelated 152 = .ok (.iload_n 3, 1) := by decide +kernel
theorem dL_isRelated_153 : decode cL_isRelated 153 = .ok (.invokevirtual 143, 3) := by decide +kernel
theorem dL_isRelated_156 : decode cL_isRelated 156 = .ok (.ifCond .ne 16, 3) := by decide +kernel
theorem dL_isRelated_159 : decode cL_isRelated 159 = .ok (.aload_n 0, 1) := by decide +kernel
theorem dL_isRelated_160 : decode cL_isRelated 160 = .ok (.iload_n 3, 1) := by decide +kernel
theorem dL_isRelated_161 : decode cL_isRelated 161 = .ok (.iload_n 2, 1) := by decide +kernel
theorem dL_isRelated_162 : decode cL_isRelated 162 = .ok (.invokevirtual 143, 3) := by decide +kernel
theorem dL_isRelated_165 : decode cL_isRelated 165 = .ok (.ifCond .ne 7, 3) := by decide +kernel
theorem dL_isRelated_168 : decode cL_isRelated 168 = .ok (.iconst 1, 1) := by decide +kernel
theorem dL_isRelated_169 : decode cL_isRelated 169 = .ok (.goto 4, 3) := by decide +kernel
theorem dL_isRelated_172 : decode cL_isRelated 172 = .ok (.iconst 0, 1) := by decide +kernel
theorem dL_isRelated_173 : decode cL_isRelated 173 = .ok (.ireturn, 1) := by decide +kernel
theorem dL_isPacked_0 : decode cL_isPacked 0 = .ok (.lconst 0, 1) := by decide +kernel
theorem dL_isPacked_1 : decode cL_isPacked 1 = .ok (.lstore_n 1, 1) := by decide +kernel
theorem dL_isPacked_2 : decode cL_isPacked 2 = .ok (.iconst 0, 1) := by decide +kernel
theorem dL_isPacked_3 : decode cL_isPacked 3 = .ok (.istore_n 3, 1) := by decide +kernel
theorem dL_isPacked_4 : decode cL_isPacked 4 = .ok (.iconst 0, 1) := by decide +kernel
theorem dL_isPacked_5 : decode cL_isPacked 5 = .ok (.istore 4, 2) := by decide +kernel
theorem dL_isPacked_7 : decode cL_isPacked 7 = .ok (.iload 4, 2) := by decide +kernel
theorem dL_isPacked_9 : decode cL_isPacked 9 = .ok (.sipush 2000, 3) := by decide +kernel
theorem dL_isPacked_12 : decode cL_isPacked 12 = .ok (.if_icmp .ge 97, 3) := by decide +kernel
theorem dL_isPacked_15 : decode cL_isPacked 15 = .ok (.aload_n 0, 1) := by decide +kernel
theorem dL_isPacked_16 : decode cL_isPacked 16 = .ok (.iload 4, 2) := by decide +kernel
theorem dL_isPacked_18 : decode cL_isPacked 18 = .ok (.invokestatic 146, 3) := by decide +kernel
theorem dL_isPacked_21 : decode cL_isPacked 21 = .ok (.istore 5, 2) := by decide +kernel
theorem dL_isPacked_23 : decode cL_isPacked 23 = .ok (.iload 5, 2) := by decide +kernel
theorem dL_isPacked_25 : decode cL_isPacked 25 = .ok (.ifCond .lt 78, 3) := by decide +kernel
theorem dL_isPacked_28 : decode cL_isPacked 28 = .ok (.aload_n 0, 1) := by decide +kernel
theorem dL_isPacked_29 : decode cL_isPacked 29 = .ok (.iload 4, 2) := by decide +kernel
theorem dL_isPacked_31 : decode cL_isPacked 31 = .ok (.invokestatic 149, 3) := by decide +kernel
theorem dL_isPacked_34 : decode cL_isPacked 34 = .ok (.istore 6, 2) := by decide +kernel
theorem dL_isPacked_36 : decode cL_isPacked 36 = .ok (.iinc 3 1, 3) := by decide +kernel
theorem dL_isPacked_39 : decode cL_isPacked 39 = .ok (.iload 5, 2) := by decide +kernel
theorem dL_isPacked_41 : decode cL_isPacked 41 = .ok (.iconst 3, 1) := by decide +kernel
theorem dL_isPacked_42 : decode cL_isPacked 42 = .ok (.if_icmp .gt 44, 3) := by decide +kernel
theorem dL_isPacked_45 : decode cL_isPacked 45 = .ok (.iload 5, 2) := by decide +kernel
theorem dL_isPacked_47 : decode cL_isPacked 47 = .ok (.ifCond .ne 7, 3) := by decide +kernel
theorem dL_isPacked_50 : decode cL_isPacked 50 = .ok (.iconst 1, 1) := by decide +kernel
theorem dL_isPacked_51 : decode cL_isPacked 51 = .ok (.goto 4, 3) := by decide +kernel
theorem dL_isPacked_54 : decode cL_isPacked 54 = .ok (.iconst 0, 1) := by decide +kernel
theorem dL_isPacked_55 : decode cL_isPacked 55 = .ok (.iload 6, 2) := by decide +kernel
theorem dL_isPacked_57 : decode cL_isPacked 57 = .ok (.ifCond .ge 7, 3) := by decide +kernel
theorem dL_isPacked_60 : decode cL_isPacked 60 = .ok (.iconst 1, 1) := by decide +kernel
theorem dL_isPacked_61 : decode cL_isPacked 61 = .ok (.goto 4, 3) := by decide +kernel
theorem dL_isPacked_64 : decode cL_isPacked 64 = .ok (.iconst 0, 1) := by decide +kernel
theorem dL_isPacked_65 : decode cL_isPacked 65 = .ok (.if_icmp .ne 21, 3) := by decide +kernel
theorem dL_isPacked_68 : decode cL_isPacked 68 = .ok (.iload 6, 2) := by decide +kernel
theorem dL_isPacked_70 : decode cL_isPacked 70 = .ok (.ifCond .lt 18, 3) := by decide +kernel
theorem dL_isPacked_73 : decode cL_isPacked 73 = .ok (.aload_n 0, 1) := by decide +kernel
theorem dL_isPacked_74 : decode cL_isPacked 74 = .ok (.iload 6, 2) := by decide +kernel
theorem dL_isPacked_76 : decode cL_isPacked 76 = .ok (.invokestatic 146, 3) := by decide +kernel
theorem dL_isPacked_79 : decode cL_isPacked 79 = .ok (.iload 5, 2) := by decide +kernel
theorem dL_isPacked_81 : decode cL_isPacked 81 = .ok (.iconst 1, 1) := by decide +kernel
theorem dL_isPacked_82 : decode cL_isPacked 82 = .ok (.isub, 1) := by decide +kernel
theorem dL_isPacked_83 : decode cL_isPacked 83 = .ok (.if_icmp .eq 5, 3) := by decide +kernel
theorem dL_isPacked_86 : decode cL_isPacked 86 = .ok (.iconst 0, 1) := by decide +kernel
theorem dL_isPacked_87 : decode cL_isPacked 87 = .ok (.ireturn, 1) := by decide +kernel
theorem dL_isPacked_88 : decode cL_isPacked 88 = .ok (.lload_n 1, 1) := by decide +kernel
theorem dL_isPacked_89 : decode cL_isPacked 89 = .ok (.iload 5, 2) := by decide +kernel
theorem dL_isPacked_91 : decode cL_isPacked 91 = .ok (.ifCond .ne 9, 3) := by decide +kernel
theorem dL_isPacked_94 : decode cL_isPacked 94 = .ok (.ldc2_w 152, 3) := by decide +kernel
theorem dL_isPacked_97 : decode cL_isPacked 97 = .ok (.goto 4, 3) := by decide +kernel
theorem dL_isPacked_100 : decode cL_isPacked 100 = .ok (.lconst 0, 1) := by decide +kernel
theorem dL_isPacked_101 : decode cL_isPacked 101 = .ok (.ladd, 1) := by decide +kernel
theorem dL_isPacked_102 : decode cL_isPacked 102 = .ok (.lstore_n 1, 1) := by decide +kernel
theorem dL_isPacked_103 : decode cL_isPacked 103 = .ok (.iinc 4 1, 3) := by decide +kernel
theorem dL_isPacked_106 : decode cL_isPacked 106 = .ok (.goto (-99), 3) := by decide +kernel
theorem dL_isPacked_109 : decode cL_isPacked 109 = .ok (.iload_n 3, 1) := by decide +kernel
theorem dL_isPacked_110 : decode cL_isPacked 110 = .ok (.aload_n 0, 1) := by decide +kernel
theorem dL_isPacked_111 : decode cL_isPacked 111 = .ok (.invokevirtual 95, 3) := by decide +kernel
theorem dL_isPacked_114 : decode cL_isPacked 114 = .ok (.if_icmp .ne 30, 3) := by decide +kernel
theorem dL_isPacked_117 : decode cL_isPacked 117 = .ok (.aload_n 0, 1) := by decide +kernel
theorem dL_isPacked_118 : decode cL_isPacked 118 = .ok (.invokevirtual 100, 3) := by decide +kernel
theorem dL_isPacked_121 : decode cL_isPacked 121 = .ok (.lload_n 1, 1) := by decide +kernel
theorem dL_isPacked_122 : decode cL_isPacked 122 = .ok (.lcmp, 1) := by decide +kernel
theorem dL_isPacked_123 : decode cL_isPacked 123 = .ok (.ifCond .lt 21, 3) := by decide +kernel
theorem dL_isPacked_126 : decode cL_isPacked 126 = .ok (.aload_n 0, 1) := by decide +kernel
theorem dL_isPacked_127 : decode cL_isPacked 127 = .ok (.invokevirtual 100, 3) := by decide +kernel
theorem dL_isPacked_130 : decode cL_isPacked 130 = .ok (.ldc2_w 152, 3) := by decide +kernel
theorem dL_isPacked_133 : decode cL_isPacked 133 = .ok (.iload_n 3, 1) := by decide +kernel
theorem dL_isPacked_134 : decode cL_isPacked 134 = .ok (.i2l, 1) := by decide +kernel
theorem dL_isPacked_135 : decode cL_isPacked 135 = .ok (.lmul, 1) := by decide +kernel
theorem dL_isPacked_136 : decode cL_isPacked 136 = .ok (.lcmp, 1) := by decide +kernel
theorem dL_isPacked_137 : decode cL_isPacked 137 = .ok (.ifCond .gt 7, 3) := by decide +kernel
theorem dL_isPacked_140 : decode cL_isPacked 140 = .ok (.iconst 1, 1) := by decide +kernel
theorem dL_isPacked_141 : decode cL_isPacked 141 = .ok (.goto 4, 3) := by decide +kernel
theorem dL_isPacked_144 : decode cL_isPacked 144 = .ok (.iconst 0, 1) := by decide +kernel
theorem dL_isPacked_145 : decode cL_isPacked 145 = .ok (.ireturn, 1) := by decide +kernel
theorem dL_law_0 : decode cL_law 0 = .ok (.new 8, 3) := by decide +kernel
theorem dL_law_3 : decode cL_law 3 = .ok (.dup, 1) := by decide +kernel
theorem dL_law_4 : decode cL_law 4 = .ok (.invokespecial 154, 3) := by decide +kernel
theorem dL_law_7 : decode cL_law 7 = .ok (.astore_n 1, 1) := by decide +kernel
theorem dL_law_8 : decode cL_law 8 = .ok (.aload_n 0, 1) := by decide +kernel
theorem dL_law_9 : decode cL_law 9 = .ok (.iconst 0, 1) := by decide +kernel
theorem dL_law_10 : decode cL_law 10 = .ok (.invokestatic 155, 3) := by decide +kernel
theorem dL_law_13 : decode cL_law 13 = .ok (.bipush 56, 2) := by decide +kernel
theorem dL_law_15 : decode cL_law 15 = .ok (.invokestatic 75, 3) := by decide +kernel
theorem dL_law_18 : decode cL_law 18 = .ok (.istore_n 2, 1) := by decide +kernel
theorem dL_law_19 : decode cL_law 19 = .ok (.iconst 0, 1) := by decide +kernel
theorem dL_law_20 : decode cL_law 20 = .ok (.istore_n 3, 1) := by decide +kernel
theorem dL_law_21 : decode cL_law 21 = .ok (.iload_n 3, 1) := by decide +kernel
theorem dL_law_22 : decode cL_law 22 = .ok (.iload_n 2, 1) := by decide +kernel
theorem dL_law_23 : decode cL_law 23 = .ok (.if_icmp .ge 307, 3) := by decide +kernel
theorem dL_law_26 : decode cL_law 26 = .ok (.aload_n 0, 1) := by decide +kernel
theorem dL_law_27 : decode cL_law 27 = .ok (.iconst 1, 1) := by decide +kernel
theorem dL_law_28 : decode cL_law 28 = .ok (.iload_n 3, 1) := by decide +kernel
theorem dL_law_29 : decode cL_law 29 = .ok (.iadd, 1) := by decide +kernel
theorem dL_law_30 : decode cL_law 30 = .ok (.invokestatic 155, 3) := by decide +kernel
theorem dL_law_33 : decode cL_law 33 = .ok (.ldc 159, 2) := by decide +kernel
theorem dL_law_35 : decode cL_law 35 = .ok (.invokestatic 75, 3) := by decide +kernel
theorem dL_law_38 : decode cL_law 38 = .ok (.istore 4, 2) := by decide +kernel
theorem dL_law_40 : decode cL_law 40 = .ok (.iload 4, 2) := by decide +kernel
theorem dL_law_42 : decode cL_law 42 = .ok (.bipush 12, 2) := by decide +kernel
theorem dL_law_44 : decode cL_law 44 = .ok (.idiv, 1) := by decide +kernel
theorem dL_law_45 : decode cL_law 45 = .ok (.istore 5, 2) := by decide +kernel
theorem dL_law_47 : decode cL_law 47 = .ok (.aload_n 1, 1) := by decide +kernel
theorem dL_law_48 : decode cL_law 48 = .ok (.invokestatic 160, 3) := by decide +kernel
theorem dL_law_51 : decode cL_law 51 = .ok (.lstore 6, 2) := by decide +kernel
theorem dL_law_53 : decode cL_law 53 = .ok (.iconst 0, 1) := by decide +kernel
theorem dL_law_54 : decode cL_law 54 = .ok (.istore 8, 2) := by decide +kernel
theorem dL_law_56 : decode cL_law 56 = .ok (.iload 4, 2) := by decide +kernel
theorem dL_law_58 : decode cL_law 58 = .ok (.bipush 12, 2) := by decide +kernel
theorem dL_law_60 : decode cL_law 60 = .ok (.irem, 1) := by decide +kernel
theorem dL_law_61 : decode cL_law 61 = .ok (.tableswitch 201 0 10 #[59, 59, 59, 81, 95, 117, 117, 117, 126, 139, 188], 59) := by decide +kernel
theorem dL_law_120 : decode cL_law 120 = .ok (.aload_n 1, 1) := by decide +kernel
theorem dL_law_121 : decode cL_law 121 = .ok (.iload 5, 2) := by decide +kernel
theorem dL_law_123 : decode cL_law 123 = .ok (.bipush 8, 2) := by decide +kernel
theorem dL_law_125 : decode cL_law 125 = .ok (.irem, 1) := by decide +kernel
theorem dL_law_126 : decode cL_law 126 = .ok (.iload 5, 2) := by decide +kernel
theorem dL_law_128 : decode cL_law 128 = .ok (.bipush 8, 2) := by decide +kernel
theorem dL_law_130 : decode cL_law 130 = .ok (.idiv, 1) := by decide +kernel
theorem dL_law_131 : decode cL_law 131 = .ok (.invokestatic 164, 3) := by decide +kernel
theorem dL_law_134 : decode cL_law 134 = .ok (.invokestatic 167, 3) := by decide +kernel
theorem dL_law_137 : decode cL_law 137 = .ok (.istore 8, 2) := by decide +kernel
theorem dL_law_139 : decode cL_law 139 = .ok (.goto 133, 3) := by decide +kernel
theorem dL_law_142 : decode cL_law 142 = .ok (.aload_n 1, 1) := by decide +kernel
theorem dL_law_143 : decode cL_law 143 = .ok (.iload 5, 2) := by decide +kernel
theorem dL_law_145 : decode cL_law 145 = .ok (.bipush 8, 2) := by decide +kernel
theorem dL_law_147 : decode cL_law 147 = .ok (.irem, 1) := by decide +kernel
theorem dL_law_148 : decode cL_law 148 = .ok (.invokestatic 170, 3) := by decide +kernel
theorem dL_law_151 : decode cL_law 151 = .ok (.istore 8, 2) := by decide +kernel
theorem dL_law_153 : decode cL_law 153 = .ok (.goto 119, 3) := by decide +kernel
theorem dL_law_156 : decode cL_law 156 = .ok (.aload_n 1, 1) := by decide +kernel
theorem dL_law_157 : decode cL_law 157 = .ok (.iload 5, 2) := by decide +kernel
theorem dL_law_159 : decode cL_law 159 = .ok (.bipush 8, 2) := by decide +kernel
theorem dL_law_161 : decode cL_law 161 = .ok (.irem, 1) := by decide +kernel
theorem dL_law_162 : decode cL_law 162 = .ok (.iload 5, 2) := by decide +kernel
theorem dL_law_164 : decode cL_law 164 = .ok (.bipush 8, 2) := by decide +kernel
theorem dL_law_166 : decode cL_law 166 = .ok (.idiv, 1) := by decide +kernel
theorem dL_law_167 : decode cL_law 167 = .ok (.bipush 8, 2) := by decide +kernel
theorem dL_law_169 : decode cL_law 169 = .ok (.irem, 1) := by decide +kernel
theorem dL_law_170 : decode cL_law 170 = .ok (.invokestatic 173, 3) := by decide +kernel
theorem dL_law_173 : decode cL_law 173 = .ok (.istore 8, 2) := by decide +kernel
theorem dL_law_175 : decode cL_law 175 = .ok (.goto 97, 3) := by decide +kernel
theorem dL_law_178 : decode cL_law 178 = .ok (.aload_n 1, 1) := by decide +kernel
theorem dL_law_179 : decode cL_law 179 = .ok (.invokestatic 176, 3) := by decide +kernel
theorem dL_law_182 : decode cL_law 182 = .ok (.istore 8, 2) := by decide +kernel
theorem dL_law_184 : decode cL_law 184 = .ok (.goto 88, 3) := by decide +kernel
theorem dL_law_187 : decode cL_law 187 = .ok (.aload_n 1, 1) := by decide +kernel
theorem dL_law_188 : decode cL_law 188 = .ok (.iload 5, 2) := by decide +kernel
theorem dL_law_190 : decode cL_law 190 = .ok (.iconst 5, 1) := by decide +kernel
theorem dL_law_191 : decode cL_law 191 = .ok (.irem, 1) := by decide +kernel
theorem dL_law_192 : decode cL_law 192 = .ok (.invokestatic 179, 3) := by decide +kernel
theorem dL_law_195 : decode cL_law 195 = .ok (.istore 8, 2) := by decide +kernel
theorem dL_law_197 : decode cL_law 197 = .ok (.goto 75, 3) := by decide +kernel
theorem dL_law_200 : decode cL_law 200 = .ok (.iload 5, 2) := by decide +kernel
theorem dL_law_202 : decode cL_law 202 = .ok (.iconst 2, 1) := by decide +kernel
theorem dL_law_203 : decode cL_law 203 = .ok (.irem, 1) := by decide +kernel
theorem dL_law_204 : decode cL_law 204 = .ok (.ifCond .ne 16, 3) := by decide +kernel
theorem dL_law_207 : decode cL_law 207 = .ok (.aload_n 1, 1) := by decide +kernel
theorem dL_law_208 : decode cL_law 208 = .ok (.iload 5, 2) := by decide +kernel
theorem dL_law_210 : decode cL_law 210 = .ok (.iconst 2, 1) := by decide +kernel
theorem dL_law_211 : decode cL_law 211 = .ok (.idiv, 1) := by decide +kernel
theorem dL_law_212 : decode cL_law 212 = .ok (.iconst 5, 1) := by decide +kernel
theorem dL_law_213 : decode cL_law 213 = .ok (.irem, 1) := by decide +kernel
theorem dL_law_214 : decode cL_law 214 = .ok (.invokestatic 182, 3) := by decide +kernel
theorem dL_law_217 : decode cL_law 217 = .ok (.goto 27, 3) := by decide +kernel
theorem dL_law_220 : decode cL_law 220 = .ok (.aload_n 1, 1) := by decide +kernel
theorem dL_law_221 : decode cL_law 221 = .ok (.aload_n 1, 1) := by decide +kernel
theorem dL_law_222 : decode cL_law 222 = .ok (.invokevirtual 80, 3) := by decide +kernel
theorem dL_law_225 : decode cL_law 225 = .ok (.iconst 1, 1) := by decide +kernel
theorem dL_law_226 : decode cL_law 226 = .ok (.isub, 1) := by decide +kernel
theorem dL_law_227 : decode cL_law 227 = .ok (.iload 5, 2) := by decide +kernel
theorem dL_law_229 : decode cL_law 229 = .ok (.iconst 2, 1) := by decide +kernel
theorem dL_law_230 : decode cL_law 230 = .ok (.idiv, 1) := by decide +kernel
theorem dL_law_231 : decode cL_law 231 = .ok (.iconst 3, 1) := by decide +kernel
theorem dL_law_232 : decode cL_law 232 = .ok (.aload_n 1, 1) := by decide +kernel
theorem dL_law_233 : decode cL_law 233 = .ok (.invokevirtual 80, 3) := by decide +kernel
theorem dL_law_236 : decode cL_law 236 = .ok (.invokestatic 185, 3) := by decide +kernel
theorem dL_law_239 : decode cL_law 239 = .ok (.irem, 1) := by decide +kernel
theorem dL_law_240 : decode cL_law 240 = .ok (.isub, 1) := by decide +kernel
theorem dL_law_241 : decode cL_law 241 = .ok (.invokestatic 190, 3) := by decide +kernel
theorem dL_law_244 : decode cL_law 244 = .ok (.istore 8, 2) := by decide +kernel
theorem dL_law_246 : decode cL_law 246 = .ok (.goto 26, 3) := by decide +kernel
theorem dL_law_249 : decode cL_law 249 = .ok (.aload_n 1, 1) := by decide +kernel
theorem dL_law_250 : decode cL_law 250 = .ok (.iload 5, 2) := by decide +kernel
theorem dL_law_252 : decode cL_law 252 = .ok (.iconst 5, 1) := by decide +kernel
theorem dL_law_253 : decode cL_law 253 = .ok (.irem, 1) := by decide +kernel
theorem dL_law_254 : decode cL_law 254 = .ok (.invokestatic 193, 3) := by decide +kernel
theorem dL_law_257 : decode cL_law 257 = .ok (.istore 8, 2) := by decide +kernel
theorem dL_law_259 : decode cL_law 259 = .ok (.goto 13, 3) := by decide +kernel
theorem dL_law_262 : decode cL_law 262 = .ok (.aload_n 1, 1) := by decide +kernel
theorem dL_law_263 : decode cL_law 263 = .ok (.iload 5, 2) := by decide +kernel
theorem dL_law_265 : decode cL_law 265 = .ok (.iconst 5, 1) := by decide +kernel
theorem dL_law_266 : decode cL_law 266 = .ok (.irem, 1) := by decide +kernel
theorem dL_law_267 : decode cL_law 267 = .ok (.invokestatic 196, 3) := by decide +kernel
theorem dL_law_270 : decode cL_law 270 = .ok (.istore 8, 2) := by decide +kernel
theorem dL_law_272 : decode cL_law 272 = .ok (.iload 8, 2) := by decide +kernel
theorem dL_law_274 : decode cL_law 274 = .ok (.sipush (-1000), 3) := by decide +kernel
theorem dL_law_277 : decode cL_law 277 = .ok (.if_icmp .ge 13, 3) := by decide +kernel
theorem dL_law_280 : decode cL_law 280 = .ok (.aload_n 1, 1) := by decide +kernel
theorem dL_law_281 : decode cL_law 281 = .ok (.invokestatic 160, 3) := by decide +kernel
theorem dL_law_284 : decode cL_law 284 = .ok (.lload 6, 2) := by decide +kernel
theorem dL_law_286 : decode cL_law 286 = .ok (.lcmp, 1) := by decide +kernel
theorem dL_law_287 : decode cL_law 287 = .ok (.ifCond .ne 35, 3) := by decide +kernel
theorem dL_law_290 : decode cL_law 290 = .ok (.iload 8, 2) := by decide +kernel
theorem dL_law_292 : decode cL_law 292 = .ok (.ifCond .lt 32, 3) := by decide +kernel
theorem dL_law_295 : decode cL_law 295 = .ok (.iload 4, 2) := by decide +kernel
theorem dL_law_297 : decode cL_law 297 = .ok (.bipush 12, 2) := by decide +kernel
theorem dL_law_299 : decode cL_law 299 = .ok (.irem, 1) := by decide +kernel
theorem dL_law_300 : decode cL_law 300 = .ok (.bipush 7, 2) := by decide +kernel
theorem dL_law_302 : decode cL_law 302 = .ok (.if_icmp .le 22, 3) := by decide +kernel
theorem dL_law_305 : decode cL_law 305 = .ok (.iload 4, 2) := by decide +kernel
theorem dL_law_307 : decode cL_law 307 = .ok (.bipush 12, 2) := by decide +kernel
theorem dL_law_309 : decode cL_law 309 = .ok (.irem, 1) := by decide +kernel
theorem dL_law_310 : decode cL_law 310 = .ok (.bipush 8, 2) := by decide +kernel
theorem dL_law_312 : decode cL_law 312 = .ok (.if_icmp .eq 12, 3) := by decide +kernel
theorem dL_law_315 : decode cL_law 315 = .ok (.aload_n 1, 1) := by decide +kernel
theorem dL_law_316 : decode cL_law 316 = .ok (.invokevirtual 90, 3) := by decide +kernel
theorem dL_law_319 : decode cL_law 319 = .ok (.ifCond .eq 5, 3) := by decide +kernel
theorem dL_law_322 : decode cL_law 322 = .ok (.iconst 0, 1) := by decide +kernel
theorem dL_law_323 : decode cL_law 323 = .ok (.ireturn, 1) := by decide +kernel
theorem dL_law_324 : decode cL_law 324 = .ok (.iinc 3 1, 3) := by decide +kernel
theorem dL_law_327 : decode cL_law 327 = .ok (.goto (-306), 3) := by decide +kernel
theorem dL_law_330 : decode cL_law 330 = .ok (.aload_n 0, 1) := by decide +kernel
theorem dL_law_331 : decode cL_law 331 = .ok (.bipush 58, 2) := by decide +kernel
theorem dL_law_333 : decode cL_law 333 = .ok (.invokestatic 155, 3) := by decide +kernel
theorem dL_law_336 : decode cL_law 336 = .ok (.aload_n 1, 1) := by decide +kernel
theorem dL_law_337 : decode cL_law 337 = .ok (.invokevirtual 80, 3) := by decide +kernel
theorem dL_law_340 : decode cL_law 340 = .ok (.invokestatic 75, 3) := by decide +kernel
theorem dL_law_343 : decode cL_law 343 = .ok (.istore_n 3, 1) := by decide +kernel
theorem dL_law_344 : decode cL_law 344 = .ok (.aload_n 0, 1) := by decide +kernel
theorem dL_law_345 : decode cL_law 345 = .ok (.bipush 59, 2) := by decide +kernel
theorem dL_law_347 : decode cL_law 347 = .ok (.invokestatic 155, 3) := by decide +kernel
theorem dL_law_350 : decode cL_law 350 = .ok (.aload_n 1, 1) := by decide +kernel
theorem dL_law_351 : decode cL_law 351 = .ok (.invokevirtual 80, 3) := by decide +kernel
theorem dL_law_354 : decode cL_law 354 = .ok (.invokestatic 75, 3) := by decide +kernel
theorem dL_law_357 : decode cL_law 357 = .ok (.istore 4, 2) := by decide +kernel
theorem dL_law_359 : decode cL_law 359 = .ok (.aload_n 1, 1) := by decide +kernel
theorem dL_law_360 : decode cL_law 360 = .ok (.aload_n 1, 1) := by decide +kernel
theorem dL_law_361 : decode cL_law 361 = .ok (.invokevirtual 85, 3) := by decide +kernel
theorem dL_law_364 : decode cL_law 364 = .ok (.invokestatic 122, 3) := by decide +kernel
theorem dL_law_367 : decode cL_law 367 = .ok (.istore 5, 2) := by decide +kernel
theorem dL_law_369 : decode cL_law 369 = .ok (.aload_n 1, 1) := by decide +kernel
theorem dL_law_370 : decode cL_law 370 = .ok (.iload_n 3, 1) := by decide +kernel
theorem dL_law_371 : decode cL_law 371 = .ok (.iload 4, 2) := by decide +kernel
theorem dL_law_373 : decode cL_law 373 = .ok (.invokestatic 199, 3) := by decide +kernel
theorem dL_law_376 : decode cL_law 376 = .ok (.ifCond .eq 41, 3) := by decide +kernel
theorem dL_law_379 : decode cL_law 379 = .ok (.aload_n 1, 1) := by decide +kernel
theorem dL_law_380 : decode cL_law 380 = .ok (.iload 4, 2) := by decide +kernel
theorem dL_law_382 : decode cL_law 382 = .ok (.iload_n 3, 1) := by decide +kernel
theorem dL_law_383 : decode cL_law 383 = .ok (.invokestatic 199, 3) := by decide +kernel
theorem dL_law_386 : decode cL_law 386 = .ok (.ifCond .eq 31, 3) := by decide +kernel
theorem dL_law_389 : decode cL_law 389 = .ok (.aload_n 1, 1) := by decide +kernel
theorem dL_law_390 : decode cL_law 390 = .ok (.iload_n 3, 1) := by decide +kernel
theorem dL_law_391 : decode cL_law 391 = .ok (.iload 5, 2) := by decide +kernel
theorem dL_law_393 : decode cL_law 393 = .ok (.invokestatic 199, 3) := by decide +kernel
theorem dL_law_396 : decode cL_law 396 = .ok (.ifCond .eq 21, 3) := by decide +kernel
theorem dL_law_399 : decode cL_law 399 = .ok (.aload_n 1, 1) := by decide +kernel
theorem dL_law_400 : decode cL_law 400 = .ok (.iload 5, 2) := by decide +kernel
theorem dL_law_402 : decode cL_law 402 = .ok (.iload 5, 2) := by decide +kernel
theorem dL_law_404 : decode cL_law 404 = .ok (.invokestatic 199, 3) := by decide +kernel
theorem dL_law_407 : decode cL_law 407 = .ok (.ifCond .eq 10, 3) := by decide +kernel
theorem dL_law_410 : decode cL_law 410 = .ok (.aload_n 1, 1) := by decide +kernel
theorem dL_law_411 : decode cL_law 411 = .ok (.invokestatic 203, 3) := by decide +kernel
theorem dL_law_414 : decode cL_law 414 = .ok (.ifCond .ne 5, 3) := by decide +kernel
theorem dL_law_417 : decode cL_law 417 = .ok (.iconst 0, 1) := by decide +kernel
theorem dL_law_418 : decode cL_law 418 = .ok (.ireturn, 1) := by decide +kernel
theorem dL_law_419 : decode cL_law 419 = .ok (.aload_n 1, 1) := by decide +kernel
theorem dL_law_420 : decode cL_law 420 = .ok (.invokestatic 160, 3) := by decide +kernel
theorem dL_law_423 : decode cL_law 423 = .ok (.lstore 6, 2) := by decide +kernel
theorem dL_law_425 : decode cL_law 425 = .ok (.aload_n 1, 1) := by decide +kernel
theorem dL_law_426 : decode cL_law 426 = .ok (.invokevirtual 80, 3) := by decide +kernel
theorem dL_law_429 : decode cL_law 429 = .ok (.istore 8, 2) := by decide +kernel
theorem dL_law_431 : decode cL_law 431 = .ok (.aload_n 1, 1) := by decide +kernel
theorem dL_law_432 : decode cL_law 432 = .ok (.bipush 8, 2) := by decide +kernel
theorem dL_law_434 : decode cL_law 434 = .ok (.iconst (-1), 1) := by decide +kernel
theorem dL_law_435 : decode cL_law 435 = .ok (.invokestatic 167, 3) := by decide +kernel
theorem dL_law_438 : decode cL_law 438 = .ok (.sipush (-1001), 3) := by decide +kernel
theorem dL_law_441 : decode cL_law 441 = .ok (.if_icmp .ne 254, 3) := by decide +kernel
theorem dL_law_444 : decode cL_law 444 = .ok (.aload_n 1, 1) := by decide +kernel
theorem dL_law_445 : decode cL_law 445 = .ok (.bipush 7, 2) := by decide +kernel
theorem dL_law_447 : decode cL_law 447 = .ok (.sipush 10000, 3) := by decide +kernel
theorem dL_law_450 : decode cL_law 450 = .ok (.invokestatic 167, 3) := by decide +kernel
theorem dL_law_453 : decode cL_law 453 = .ok (.sipush (-1002), 3) := by decide +kernel
theorem dL_law_456 : decode cL_law 456 = .ok (.if_icmp .ne 239, 3) := by decide +kernel
theorem dL_law_459 : decode cL_law 459 = .ok (.aload_n 1, 1) := by decide +kernel
theorem dL_law_460 : decode cL_law 460 = .ok (.iconst (-1), 1) := by decide +kernel
theorem dL_law_461 : decode cL_law 461 = .ok (.invokestatic 170, 3) := by decide +kernel
theorem dL_law_464 : decode cL_law 464 = .ok (.sipush (-1001), 3) := by decide +kernel
theorem dL_law_467 : decode cL_law 467 = .ok (.if_icmp .ne 228, 3) := by decide +kernel
theorem dL_law_470 : decode cL_law 470 = .ok (.aload_n 1, 1) := by decide +kernel
theorem dL_law_471 : decode cL_law 471 = .ok (.iconst 0, 1) := by decide +kernel
theorem dL_law_472 : decode cL_law 472 = .ok (.bipush 8, 2) := by decide +kernel
theorem dL_law_474 : decode cL_law 474 = .ok (.invokestatic 173, 3) := by decide +kernel
theorem dL_law_477 : decode cL_law 477 = .ok (.sipush (-1001), 3) := by decide +kernel
theorem dL_law_480 : decode cL_law 480 = .ok (.if_icmp .ne 215, 3) := by decide +kernel
theorem dL_law_483 : decode cL_law 483 = .ok (.aload_n 1, 1) := by decide +kernel
theorem dL_law_484 : decode cL_law 484 = .ok (.bipush 8, 2) := by decide +kernel
theorem dL_law_486 : decode cL_law 486 = .ok (.invokestatic 113, 3) := by decide +kernel
theorem dL_law_489 : decode cL_law 489 = .ok (.sipush (-1001), 3) := by decide +kernel
theorem dL_law_492 : decode cL_law 492 = .ok (.if_icmp .ne 203, 3) := by decide +kernel
theorem dL_law_495 : decode cL_law 495 = .ok (.aload_n 1, 1) := by decide +kernel
theorem dL_law_496 : decode cL_law 496 = .ok (.iconst 5, 1) := by decide +kernel
theorem dL_law_497 : decode cL_law 497 = .ok (.invokestatic 179, 3) := by decide +kernel
theorem dL_law_500 : decode cL_law 500 = .ok (.sipush (-1001), 3) := by decide +kernel
theorem dL_law_503 : decode cL_law 503 = .ok (.if_icmp .ne 192, 3) := by decide +kernel
theorem dL_law_506 : decode cL_law 506 = .ok (.aload_n 1, 1) := by decide +kernel
theorem dL_law_507 : decode cL_law 507 = .ok (.iconst 0, 1) := by decide +kernel
theorem dL_law_508 : decode cL_law 508 = .ok (.invokestatic 179, 3) := by decide +kernel
theorem dL_law_511 : decode cL_law 511 = .ok (.sipush (-1002), 3) := by decide +kernel
theorem dL_law_514 : decode cL_law 514 = .ok (.if_icmp .ne 181, 3) := by decide +kernel
theorem dL_law_517 : decode cL_law 517 = .ok (.aload_n 1, 1) := by decide +kernel
theorem dL_law_518 : decode cL_law 518 = .ok (.iconst (-1), 1) := by decide +kernel
theorem dL_law_519 : decode cL_law 519 = .ok (.invokestatic 182, 3) := by decide +kernel
theorem dL_law_522 : decode cL_law 522 = .ok (.sipush (-1001), 3) := by decide +kernel
theorem dL_law_525 : decode cL_law 525 = .ok (.if_icmp .ne 170, 3) := by decide +kernel
theorem dL_law_528 : decode cL_law 528 = .ok (.aload_n 1, 1) := by decide +kernel
theorem dL_law_529 : decode cL_law 529 = .ok (.iload 8, 2) := by decide +kernel
theorem dL_law_531 : decode cL_law 531 = .ok (.invokestatic 190, 3) := by decide +kernel
theorem dL_law_534 : decode cL_law 534 = .ok (.sipush (-1001), 3) := by decide +kernel
theorem dL_law_537 : decode cL_law 537 = .ok (.if_icmp .ne 158, 3) := by decide +kernel
theorem dL_law_540 : decode cL_law 540 = .ok (.aload_n 1, 1) := by decide +kernel
theorem dL_law_541 : decode cL_law 541 = .ok (.iconst 5, 1) := by decide +kernel
theorem dL_law_542 : decode cL_law 542 = .ok (.invokestatic 193, 3) := by decide +kernel
theorem dL_law_545 : decode cL_law 545 = .ok (.sipush (-1001), 3) := by decide +kernel
theorem dL_law_548 : decode cL_law 548 = .ok (.if_icmp .ne 147, 3) := by decide +kernel
theorem dL_law_551 : decode cL_law 551 = .ok (.aload_n 1, 1) := by decide +kernel
theorem dL_law_552 : decode cL_law 552 = .ok (.iconst (-1), 1) := by decide +kernel
theorem dL_law_553 : decode cL_law 553 = .ok (.invokestatic 196, 3) := by decide +kernel
theorem dL_law_556 : decode cL_law 556 = .ok (.sipush (-1001), 3) := by decide +kernel
theorem dL_law_559 : decode cL_law 559 = .ok (.if_icmp .ne 136, 3) := by decide +kernel
theorem dL_law_562 : decode cL_law 562 = .ok (.aload_n 1, 1) := by decide +kernel
theorem dL_law_563 : decode cL_law 563 = .ok (.iconst 5, 1) := by decide +kernel
theorem dL_law_564 : decode cL_law 564 = .ok (.invokestatic 122, 3) := by decide +kernel
theorem dL_law_567 : decode cL_law 567 = .ok (.sipush (-1001), 3) := by decide +kernel
theorem dL_law_570 : decode cL_law 570 = .ok (.if_icmp .ne 125, 3) := by decide +kernel
theorem dL_law_573 : decode cL_law 573 = .ok (.aload_n 1, 1) := by decide +kernel
theorem dL_law_574 : decode cL_law 574 = .ok (.iload 8, 2) := by decide +kernel
theorem dL_law_576 : decode cL_law 576 = .ok (.iconst 0, 1) := by decide +kernel
theorem dL_law_577 : decode cL_law 577 = .ok (.invokestatic 110, 3) := by decide +kernel
theorem dL_law_580 : decode cL_law 580 = .ok (.sipush (-1001), 3) := by decide +kernel
theorem dL_law_583 : decode cL_law 583 = .ok (.if_icmp .ne 112, 3) := by decide +kernel
theorem dL_law_586 : decode cL_law 586 = .ok (.aload_n 1, 1) := by decide +kernel
theorem dL_law_587 : decode cL_law 587 = .ok (.iconst 0, 1) := by decide +kernel
theorem dL_law_588 : decode cL_law 588 = .ok (.iconst 0, 1) := by decide +kernel
theorem dL_law_589 : decode cL_law 589 = .ok (.invokestatic 110, 3) := by decide +kernel
theorem dL_law_592 : decode cL_law 592 = .ok (.sipush (-1002), 3) := by decide +kernel
theorem dL_law_595 : decode cL_law 595 = .ok (.if_icmp .ne 100, 3) := by decide +kernel
theorem dL_law_598 : decode cL_law 598 = .ok (.aload_n 1, 1) := by decide +kernel
theorem dL_law_599 : decode cL_law 599 = .ok (.iconst 0, 1) := by decide +kernel
theorem dL_law_600 : decode cL_law 600 = .ok (.iconst 2, 1) := by decide +kernel
theorem dL_law_601 : decode cL_law 601 = .ok (.invokestatic 104, 3) := by decide +kernel
theorem dL_law_604 : decode cL_law 604 = .ok (.sipush (-1001), 3) := by decide +kernel
theorem dL_law_607 : decode cL_law 607 = .ok (.if_icmp .ne 88, 3) := by decide +kernel
theorem dL_law_610 : decode cL_law 610 = .ok (.aload_n 1, 1) := by decide +kernel
theorem dL_law_611 : decode cL_law 611 = .ok (.iconst 0, 1) := by decide +kernel
theorem dL_law_612 : decode cL_law 612 = .ok (.iconst 0, 1) := by decide +kernel
theorem dL_law_613 : decode cL_law 613 = .ok (.invokestatic 104, 3) := by decide +kernel
theorem dL_law_616 : decode cL_law 616 = .ok (.sipush (-1002), 3) := by decide +kernel
theorem dL_law_619 : decode cL_law 619 = .ok (.if_icmp .ne 76, 3) := by decide +kernel
theorem dL_law_622 : decode cL_law 622 = .ok (.aload_n 1, 1) := by decide +kernel
theorem dL_law_623 : decode cL_law 623 = .ok (.iconst 0, 1) := by decide +kernel
theorem dL_law_624 : decode cL_law 624 = .ok (.iconst 0, 1) := by decide +kernel
theorem dL_law_625 : decode cL_law 625 = .ok (.bipush 8, 2) := by decide +kernel
theorem dL_law_627 : decode cL_law 627 = .ok (.invokestatic 207, 3) := by decide +kernel
theorem dL_law_630 : decode cL_law 630 = .ok (.sipush (-1001), 3) := by decide +kernel
theorem dL_law_633 : decode cL_law 633 = .ok (.if_icmp .ne 62, 3) := by decide +kernel
theorem dL_law_636 : decode cL_law 636 = .ok (.aload_n 1, 1) := by decide +kernel
theorem dL_law_637 : decode cL_law 637 = .ok (.iconst 0, 1) := by decide +kernel
theorem dL_law_638 : decode cL_law 638 = .ok (.iconst 0, 1) := by decide +kernel
theorem dL_law_639 : decode cL_law 639 = .ok (.iconst 0, 1) := by decide +kernel
theorem dL_law_640 : decode cL_law 640 = .ok (.invokestatic 207, 3) := by decide +kernel
theorem dL_law_643 : decode cL_law 643 = .ok (.sipush (-1002), 3) := by decide +kernel
theorem dL_law_646 : decode cL_law 646 = .ok (.if_icmp .ne 49, 3) := by decide +kernel
theorem dL_law_649 : decode cL_law 649 = .ok (.aload_n 1, 1) := by decide +kernel
theorem dL_law_650 : decode cL_law 650 = .ok (.bipush 8, 2) := by decide +kernel
theorem dL_law_652 : decode cL_law 652 = .ok (.invokestatic 119, 3) := by decide +kernel
theorem dL_law_655 : decode cL_law 655 = .ok (.sipush (-1001), 3) := by decide +kernel
theorem dL_law_658 : decode cL_law 658 = .ok (.if_icmp .ne 37, 3) := by decide +kernel
theorem dL_law_661 : decode cL_law 661 = .ok (.aload_n 1, 1) := by decide +kernel
theorem dL_law_662 : decode cL_law 662 = .ok (.iconst (-1), 1) := by decide +kernel
theorem dL_law_663 : decode cL_law 663 = .ok (.invokestatic 146, 3) := by decide +kernel
theorem dL_law_666 : decode cL_law 666 = .ok (.sipush (-1001), 3) := by decide +kernel
theorem dL_law_669 : decode cL_law 669 = .ok (.if_icmp .ne 26, 3) := by decide +kernel
theorem dL_law_672 : decode cL_law 672 = .ok (.aload_n 1, 1) := by decide +kernel
theorem dL_law_673 : decode cL_law 673 = .ok (.sipush 10000, 3) := by decide +kernel
theorem dL_law_676 : decode cL_law 676 = .ok (.invokestatic 149, 3) := by decide +kernel
theorem dL_law_679 : decode cL_law 679 = .ok (.sipush (-1001), 3) := by decide +kernel
theorem dL_law_682 : decode cL_law 682 = .ok (.if_icmp .ne 13, 3) := by decide +kernel
theorem dL_law_685 : decode cL_law 685 = .ok (.aload_n 1, 1) := by decide +kernel
theorem dL_law_686 : decode cL_law 686 = .ok (.invokestatic 160, 3) := by decide +kernel
theorem dL_law_689 : decode cL_law 689 = .ok (.lload 6, 2) := by decide +kernel
theorem dL_law_691 : decode cL_law 691 = .ok (.lcmp, 1) := by decide +kernel
theorem dL_law_692 : decode cL_law 692 = .ok (.ifCond .eq 5, 3) := by decide +kernel
theorem dL_law_695 : decode cL_law 695 = .ok (.iconst 0, 1) := by decide +kernel
theorem dL_law_696 : decode cL_law 696 = .ok (.ireturn, 1) := by decide +kernel
theorem dL_law_697 : decode cL_law 697 = .ok (.aload_n 1, 1) := by decide +kernel
theorem dL_law_698 : decode cL_law 698 = .ok (.aload_n 1, 1) := by decide +kernel
theorem dL_law_699 : decode cL_law 699 = .ok (.invokevirtual 85, 3) := by decide +kernel
theorem dL_law_702 : decode cL_law 702 = .ok (.invokestatic 193, 3) := by decide +kernel
theorem dL_law_705 : decode cL_law 705 = .ok (.sipush (-1003), 3) := by decide +kernel
theorem dL_law_708 : decode cL_law 708 = .ok (.if_icmp .ne 31, 3) := by decide +kernel
theorem dL_law_711 : decode cL_law 711 = .ok (.aload_n 1, 1) := by decide +kernel
theorem dL_law_712 : decode cL_law 712 = .ok (.aload_n 1, 1) := by decide +kernel
theorem dL_law_713 : decode cL_law 713 = .ok (.invokevirtual 85, 3) := by decide +kernel
theorem dL_law_716 : decode cL_law 716 = .ok (.invokestatic 196, 3) := by decide +kernel
theorem dL_law_719 : decode cL_law 719 = .ok (.sipush (-1003), 3) := by decide +kernel
theorem dL_law_722 : decode cL_law 722 = .ok (.if_icmp .ne 17, 3) := by decide +kernel
theorem dL_law_725 : decode cL_law 725 = .ok (.aload_n 1, 1) := by decide +kernel
theorem dL_law_726 : decode cL_law 726 = .ok (.invokestatic 160, 3) := by decide +kernel
theorem dL_law_729 : decode cL_law 729 = .ok (.lload 6, 2) := by decide +kernel
theorem dL_law_731 : decode cL_law 731 = .ok (.lcmp, 1) := by decide +kernel
theorem dL_law_732 : decode cL_law 732 = .ok (.ifCond .ne 7, 3) := by decide +kernel
theorem dL_law_735 : decode cL_law 735 = .ok (.iconst 1, 1) := by decide +kernel
theorem dL_law_736 : decode cL_law 736 = .ok (.goto 4, 3) := by decide +kernel
theorem dL_law_739 : decode cL_law 739 = .ok (.iconst 0, 1) := by decide +kernel
theorem dL_law_740 : decode cL_law 740 = .ok (.ireturn, 1) := by decide +kernel
