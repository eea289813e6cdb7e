def lawCs : List (List Cond) := [wsL_law0_r1, wsL_law0_r2, wsL_law0_r3, wsL_law0_r4, wsL_law0_r5, wsL_law0_r6, wsL_law0_r7, wsL_law0_r8, wsL_law0_r9, wsL_law0_r10, wsL_law0_r11, wsL_law0_r12, wsL_law0_r13, wsL_law0_r14, wsL_law0_r15, wsL_law0_r16, wsL_law0_r17, wsL_law0_r18, wsL_law0_r19, wsL_law0_r20, wsL_law0_r21, wsL_law0_r22, wsL_law0_r23, wsL_law0_r24, wsL_law0_r25, wsL_law0_r26, wsX60, wsX70, wsX50, wsX00, wsX10, wsX20, wsX30, wsX40]
set_option maxRecDepth 20000 in
theorem lawCs_in : ∀ w ∈ lawCs.flatten, w ∈ wsL_law := by
  intro w h
  have e : wsL_law0 = lawCs.flatten := by
    simp only [wsL_law0, lawCs, List.flatten_cons, List.flatten_nil, List.append_assoc, List.nil_append, List.append_nil]
  have h0 : w ∈ wsL_law0 := e ▸ h
  rw [wsL_law]
  exact List.mem_append_left _ (List.mem_append_left _ (List.mem_append_left _ (List.mem_append_left _ (h0))))
def lawAt (q : Nat × Nat) : Option Cond := match lawCs[q.1]? with
  | some c => c[q.2]?
  | none => none
theorem goodIn_c (ws : List Cond) (ps : List (Nat × Nat)) (hp : ws = ps.filterMap lawAt) (h : ws.all goodWord = true) : GoodIn wsL_law ws := by
  intro w hw
  refine ⟨?_, good_of_word (List.all_eq_true.mp h w hw)⟩
  rw [hp] at hw
  obtain ⟨q, -, hq⟩ := List.mem_filterMap.mp hw
  unfold lawAt at hq
  split at hq
  · next c hc => exact lawCs_in w (List.mem_flatten.mpr ⟨c, List.mem_of_getElem? hc, List.mem_of_getElem? hq⟩)
  · exact absurd hq (by simp)
set_option maxRecDepth 20000 in
theorem ggL_draw_X6_draw : GoodIn wsL_draw wsX6_draw := goodIn_ca (goodIn_r _ [6, 7, 8, 9, 10, 11, 5, 12, 13, 14, 15, 16, 17, 18, 19, 20, 21, 22, 23, 24, 25, 26, 27, 28, 29, 30, 31, 32, 33, 34, 35, 36, 37, 38, 39, 40, 41, 42, 43, 44, 45, 46, 47, 48, 49, 50, 51, 52, 53, 54, 55, 56, 57, 58, 59, 60, 61, 62, 63, 64, 65, 66, 67, 68, 69, 70, 71, 72, 73, 74, 75, 76, 77, 78, 79, 80, 81, 82, 83, 84, 85, 86, 87, 88, 89, 90, 91, 92, 93, 94, 95, 96, 97, 98, 99, 100, 101] rfl (by decide +kernel)) (goodIn_sub (fun _ h => List.mem_cons_of_mem _ (List.mem_append_right _ h)) (by decide +kernel))
set_option maxRecDepth 20000 in
theorem gL_draw_X6_draw : GoodIn wsL_draw (wsV RL 7 RX6 yX6_draw wsX6_draw) := goodIn_app (goodIn_of _ (by decide +kernel)) ggL_draw_X6_draw
set_option maxRecDepth 20000 in
theorem zdL_draw_0 : dAll cL_draw [(0, .aload_n 3, 1), (1, .iconst 0, 1), (2, .aload_n 0, 1), (3, .iload_n 1, 1), (4, .iload_n 2, 1), (5, .invokevirtual 7, 3), (8, .i2l, 1), (9, .lastore, 1), (10, .goto 7, 3), (13, .astore 4, 2), (15, .iconst 1, 1), (16, .ireturn, 1), (17, .iconst 0, 1), (18, .ireturn, 1)] := dAll_of (by decide +kernel)
theorem dL_draw_0 : decode cL_draw 0 = .ok (.aload_n 3, 1) := zdL_draw_0.1
theorem dL_draw_1 : decode cL_draw 1 = .ok (.iconst 0, 1) := zdL_draw_0.2.1
theorem dL_draw_2 : decode cL_draw 2 = .ok (.aload_n 0, 1) := zdL_draw_0.2.2.1
theorem dL_draw_3 : decode cL_draw 3 = .ok (.iload_n 1, 1) := zdL_draw_0.2.2.2.1
theorem dL_draw_4 : decode cL_draw 4 = .ok (.iload_n 2, 1) := zdL_draw_0.2.2.2.2.1
theorem dL_draw_5 : decode cL_draw 5 = .ok (.invokevirtual 7, 3) := zdL_draw_0.2.2.2.2.2.1
theorem dL_draw_8 : decode cL_draw 8 = .ok (.i2l, 1) := zdL_draw_0.2.2.2.2.2.2.1
theorem dL_draw_9 : decode cL_draw 9 = .ok (.lastore, 1) := zdL_draw_0.2.2.2.2.2.2.2.1
theorem dL_draw_10 : decode cL_draw 10 = .ok (.goto 7, 3) := zdL_draw_0.2.2.2.2.2.2.2.2.1
theorem dL_draw_13 : decode cL_draw 13 = .ok (.astore 4, 2) := zdL_draw_0.2.2.2.2.2.2.2.2.2.1
theorem dL_draw_15 : decode cL_draw 15 = .ok (.iconst 1, 1) := zdL_draw_0.2.2.2.2.2.2.2.2.2.2.1
theorem dL_draw_16 : decode cL_draw 16 = .ok (.ireturn, 1) := zdL_draw_0.2.2.2.2.2.2.2.2.2.2.2.1
theorem dL_draw_17 : decode cL_draw 17 = .ok (.iconst 0, 1) := zdL_draw_0.2.2.2.2.2.2.2.2.2.2.2.2.1
theorem dL_draw_18 : decode cL_draw 18 = .ok (.ireturn, 1) := zdL_draw_0.2.2.2.2.2.2.2.2.2.2.2.2.2.1
set_option maxRecDepth 20000 in
theorem ggL_part_X6_part : GoodIn wsL_part wsX6_part := goodIn_ca (goodIn_r _ [6, 7, 8, 9, 10, 11, 5, 12, 13, 14, 15, 16, 17, 18, 19, 20, 21, 22, 23, 24, 25, 26, 27, 28, 29, 30, 31, 32, 33, 34, 35, 36, 37, 38, 39, 40, 41, 42, 43, 44, 45, 46, 47, 48, 49, 50, 51, 52, 53, 54] rfl (by decide +kernel)) (goodIn_sub (fun _ h => List.mem_cons_of_mem _ (List.mem_append_right _ h)) (by decide +kernel))
set_option maxRecDepth 20000 in
theorem gL_part_X6_part : GoodIn wsL_part (wsV RL 15 RX6 yX6_part wsX6_part) := goodIn_app (goodIn_of _ (by decide +kernel)) ggL_part_X6_part
set_option maxRecDepth 20000 in
theorem zdL_part_0 : dAll cL_part [(0, .aload_n 3, 1), (1, .iconst 0, 1), (2, .aload_n 0, 1), (3, .iload_n 1, 1), (4, .iload_n 2, 1), (5, .invokevirtual 15, 3), (8, .i2l, 1), (9, .lastore, 1), (10, .goto 7, 3), (13, .astore 4, 2), (15, .iconst 1, 1), (16, .ireturn, 1), (17, .iconst 0, 1), (18, .ireturn, 1)] := dAll_of (by decide +kernel)
theorem dL_part_0 : decode cL_part 0 = .ok (.aload_n 3, 1) := zdL_part_0.1
theorem dL_part_1 : decode cL_part 1 = .ok (.iconst 0, 1) := zdL_part_0.2.1
theorem dL_part_2 : decode cL_part 2 = .ok (.aload_n 0, 1) := zdL_part_0.2.2.1
theorem dL_part_3 : decode cL_part 3 = .ok (.iload_n 1, 1) := zdL_part_0.2.2.2.1
theorem dL_part_4 : decode cL_part 4 = .ok (.iload_n 2, 1) := zdL_part_0.2.2.2.2.1
theorem dL_part_5 : decode cL_part 5 = .ok (.invokevirtual 15, 3) := zdL_part_0.2.2.2.2.2.1
theorem dL_part_8 : decode cL_part 8 = .ok (.i2l, 1) := zdL_part_0.2.2.2.2.2.2.1
theorem dL_part_9 : decode cL_part 9 = .ok (.lastore, 1) := zdL_part_0.2.2.2.2.2.2.2.1
theorem dL_part_10 : decode cL_part 10 = .ok (.goto 7, 3) := zdL_part_0.2.2.2.2.2.2.2.2.1
theorem dL_part_13 : decode cL_part 13 = .ok (.astore 4, 2) := zdL_part_0.2.2.2.2.2.2.2.2.2.1
theorem dL_part_15 : decode cL_part 15 = .ok (.iconst 1, 1) := zdL_part_0.2.2.2.2.2.2.2.2.2.2.1
theorem dL_part_16 : decode cL_part 16 = .ok (.ireturn, 1) := zdL_part_0.2.2.2.2.2.2.2.2.2.2.2.1
theorem dL_part_17 : decode cL_part 17 = .ok (.iconst 0, 1) := zdL_part_0.2.2.2.2.2.2.2.2.2.2.2.2.1
theorem dL_part_18 : decode cL_part 18 = .ok (.ireturn, 1) := zdL_part_0.2.2.2.2.2.2.2.2.2.2.2.2.2.1
set_option maxRecDepth 20000 in
theorem ggL_leave_X6_leave : GoodIn wsL_leave wsX6_leave := goodIn_ca (goodIn_ca (goodIn_r _ [7, 8, 9, 10, 11, 12, 13, 14, 15, 16, 17, 18, 19, 6, 20, 21, 22, 23, 24, 25, 26, 27, 28, 29, 30, 31, 32, 33, 34, 35, 36, 37, 38, 39, 40, 41, 42, 43] rfl (by decide +kernel)) (goodIn_sub (fun _ h => List.mem_cons_of_mem _ (List.mem_append_left _ (List.mem_append_right _ h))) (by decide +kernel))) (goodIn_sub (fun _ h => List.mem_cons_of_mem _ (List.mem_append_right _ h)) (by decide +kernel))
set_option maxRecDepth 20000 in
theorem gL_leave_X6_leave : GoodIn wsL_leave (wsV RL 20 RX6 yX6_leave wsX6_leave) := goodIn_app (goodIn_of _ (by decide +kernel)) ggL_leave_X6_leave
set_option maxRecDepth 20000 in
theorem zdL_leave_0 : dAll cL_leave [(0, .aload_n 0, 1), (1, .iload_n 1, 1), (2, .iload_n 2, 1), (3, .invokevirtual 20, 3), (6, .goto 9, 3), (9, .astore_n 3, 1), (10, .iconst 1, 1), (11, .ireturn, 1), (12, .astore_n 3, 1), (13, .iconst 2, 1), (14, .ireturn, 1), (15, .iconst 0, 1), (16, .ireturn, 1)] := dAll_of (by decide +kernel)
theorem dL_leave_0 : decode cL_leave 0 = .ok (.aload_n 0, 1) := zdL_leave_0.1
theorem dL_leave_1 : decode cL_leave 1 = .ok (.iload_n 1, 1) := zdL_leave_0.2.1
theorem dL_leave_2 : decode cL_leave 2 = .ok (.iload_n 2, 1) := zdL_leave_0.2.2.1
theorem dL_leave_3 : decode cL_leave 3 = .ok (.invokevirtual 20, 3) := zdL_leave_0.2.2.2.1
theorem dL_leave_6 : decode cL_leave 6 = .ok (.goto 9, 3) := zdL_leave_0.2.2.2.2.1
theorem dL_leave_9 : decode cL_leave 9 = .ok (.astore_n 3, 1) := zdL_leave_0.2.2.2.2.2.1
theorem dL_leave_10 : decode cL_leave 10 = .ok (.iconst 1, 1) := zdL_leave_0.2.2.2.2.2.2.1
theorem dL_leave_11 : decode cL_leave 11 = .ok (.ireturn, 1) := zdL_leave_0.2.2.2.2.2.2.2.1
theorem dL_leave_12 : decode cL_leave 12 = .ok (.astore_n 3, 1) := zdL_leave_0.2.2.2.2.2.2.2.2.1
theorem dL_leave_13 : decode cL_leave 13 = .ok (.iconst 2, 1) := zdL_leave_0.2.2.2.2.2.2.2.2.2.1
theorem dL_leave_14 : decode cL_leave 14 = .ok (.ireturn, 1) := zdL_leave_0.2.2.2.2.2.2.2.2.2.2.1
theorem dL_leave_15 : decode cL_leave 15 = .ok (.iconst 0, 1) := zdL_leave_0.2.2.2.2.2.2.2.2.2.2.2.1
theorem dL_leave_16 : decode cL_leave 16 = .ok (.ireturn, 1) := zdL_leave_0.2.2.2.2.2.2.2.2.2.2.2.2.1
set_option maxRecDepth 20000 in
theorem ggL_holds_X6_holds : GoodIn wsL_holds wsX6_holds := goodIn_ca (goodIn_r _ [6, 7, 8, 9, 10, 11, 12, 5, 13, 14, 15, 16, 17, 18, 19, 20, 21, 22, 23, 24, 25, 26, 27, 28, 29, 30, 31, 32, 33, 34, 35, 36, 37, 38, 39, 40, 41, 42, 43, 44, 45, 46, 47, 48, 49, 50, 51, 52, 53, 54, 55, 56, 57, 58, 59, 60, 61, 62, 63, 64, 65, 66, 67, 68, 69, 70, 71, 72, 73, 74, 75, 76, 77, 78, 79, 80, 81, 82, 83, 84, 85, 86, 87, 88, 89, 90, 91, 92, 93, 94, 95, 96, 97, 98, 99, 100, 101, 102, 103, 104, 105, 106, 107, 108, 109, 110, 111, 112, 113, 114, 115, 116, 117] rfl (by decide +kernel)) (goodIn_sub (fun _ h => List.mem_cons_of_mem _ (List.mem_append_right _ h)) (by decide +kernel))
set_option maxRecDepth 20000 in
theorem gL_holds_X6_holds : GoodIn wsL_holds (wsV RL 26 RX6 yX6_holds wsX6_holds) := goodIn_app (goodIn_of _ (by decide +kernel)) ggL_holds_X6_holds
set_option maxRecDepth 20000 in
theorem zdL_holds_0 : dAll cL_holds [(0, .aload_n 2, 1), (1, .iconst 0, 1), (2, .aload_n 0, 1), (3, .iload_n 1, 1), (4, .invokevirtual 26, 3), (7, .ifCond .eq 7, 3), (10, .lconst 1, 1), (11, .goto 4, 3), (14, .lconst 0, 1), (15, .lastore, 1), (16, .goto 6, 3), (19, .astore_n 3, 1), (20, .iconst 1, 1), (21, .ireturn, 1), (22, .iconst 0, 1), (23, .ireturn, 1)] := dAll_of (by decide +kernel)
theorem dL_holds_0 : decode cL_holds 0 = .ok (.aload_n 2, 1) := zdL_holds_0.1
theorem dL_holds_1 : decode cL_holds 1 = .ok (.iconst 0, 1) := zdL_holds_0.2.1
theorem dL_holds_2 : decode cL_holds 2 = .ok (.aload_n 0, 1) := zdL_holds_0.2.2.1
theorem dL_holds_3 : decode cL_holds 3 = .ok (.iload_n 1, 1) := zdL_holds_0.2.2.2.1
theorem dL_holds_4 : decode cL_holds 4 = .ok (.invokevirtual 26, 3) := zdL_holds_0.2.2.2.2.1
theorem dL_holds_7 : decode cL_holds 7 = .ok (.ifCond .eq 7, 3) := zdL_holds_0.2.2.2.2.2.1
theorem dL_holds_10 : decode cL_holds 10 = .ok (.lconst 1, 1) := zdL_holds_0.2.2.2.2.2.2.1
theorem dL_holds_11 : decode cL_holds 11 = .ok (.goto 4, 3) := zdL_holds_0.2.2.2.2.2.2.2.1
theorem dL_holds_14 : decode cL_holds 14 = .ok (.lconst 0, 1) := zdL_holds_0.2.2.2.2.2.2.2.2.1
theorem dL_holds_15 : decode cL_holds 15 = .ok (.lastore, 1) := zdL_holds_0.2.2.2.2.2.2.2.2.2.1
theorem dL_holds_16 : decode cL_holds 16 = .ok (.goto 6, 3) := zdL_holds_0.2.2.2.2.2.2.2.2.2.2.1
theorem dL_holds_19 : decode cL_holds 19 = .ok (.astore_n 3, 1) := zdL_holds_0.2.2.2.2.2.2.2.2.2.2.2.1
theorem dL_holds_20 : decode cL_holds 20 = .ok (.iconst 1, 1) := zdL_holds_0.2.2.2.2.2.2.2.2.2.2.2.2.1
theorem dL_holds_21 : decode cL_holds 21 = .ok (.ireturn, 1) := zdL_holds_0.2.2.2.2.2.2.2.2.2.2.2.2.2.1
theorem dL_holds_22 : decode cL_holds 22 = .ok (.iconst 0, 1) := zdL_holds_0.2.2.2.2.2.2.2.2.2.2.2.2.2.2.1
theorem dL_holds_23 : decode cL_holds 23 = .ok (.ireturn, 1) := zdL_holds_0.2.2.2.2.2.2.2.2.2.2.2.2.2.2.2.1
set_option maxRecDepth 20000 in
theorem ggL_way_X6_way : GoodIn wsL_way wsX6_way := goodIn_ca (goodIn_r _ [6, 7, 8, 9, 10, 11, 12, 13, 14, 15, 16, 17, 18, 19, 20, 21, 22, 23, 24, 25, 26, 27, 28, 29, 30, 31, 32, 5, 33, 34, 35, 36, 37, 38, 39, 40, 41, 42, 43, 44, 45, 46, 47, 48, 49, 50, 51, 52, 53, 54, 55, 56, 57, 58, 59, 60, 61, 62, 63, 64, 65, 66, 67, 68, 69, 70, 71, 72, 73, 74, 75, 76, 77, 78, 79, 80, 81, 82, 83] rfl (by decide +kernel)) (goodIn_sub (fun _ h => List.mem_cons_of_mem _ (List.mem_append_right _ h)) (by decide +kernel))
set_option maxRecDepth 20000 in
theorem gL_way_X6_way : GoodIn wsL_way (wsV RL 30 RX6 yX6_way wsX6_way) := goodIn_app (goodIn_of _ (by decide +kernel)) ggL_way_X6_way
set_option maxRecDepth 20000 in
theorem zdL_way_0 : dAll cL_way [(0, .aload_n 3, 1), (1, .iconst 0, 1), (2, .aload_n 0, 1), (3, .iload_n 1, 1), (4, .iload_n 2, 1), (5, .invokevirtual 30, 3), (8, .i2l, 1), (9, .lastore, 1), (10, .goto 7, 3), (13, .astore 4, 2), (15, .iconst 1, 1), (16, .ireturn, 1), (17, .iconst 0, 1), (18, .ireturn, 1)] := dAll_of (by decide +kernel)
theorem dL_way_0 : decode cL_way 0 = .ok (.aload_n 3, 1) := zdL_way_0.1
theorem dL_way_1 : decode cL_way 1 = .ok (.iconst 0, 1) := zdL_way_0.2.1
theorem dL_way_2 : decode cL_way 2 = .ok (.aload_n 0, 1) := zdL_way_0.2.2.1
theorem dL_way_3 : decode cL_way 3 = .ok (.iload_n 1, 1) := zdL_way_0.2.2.2.1
theorem dL_way_4 : decode cL_way 4 = .ok (.iload_n 2, 1) := zdL_way_0.2.2.2.2.1
theorem dL_way_5 : decode cL_way 5 = .ok (.invokevirtual 30, 3) := zdL_way_0.2.2.2.2.2.1
theorem dL_way_8 : decode cL_way 8 = .ok (.i2l, 1) := zdL_way_0.2.2.2.2.2.2.1
theorem dL_way_9 : decode cL_way 9 = .ok (.lastore, 1) := zdL_way_0.2.2.2.2.2.2.2.1
theorem dL_way_10 : decode cL_way 10 = .ok (.goto 7, 3) := zdL_way_0.2.2.2.2.2.2.2.2.1
theorem dL_way_13 : decode cL_way 13 = .ok (.astore 4, 2) := zdL_way_0.2.2.2.2.2.2.2.2.2.1
theorem dL_way_15 : decode cL_way 15 = .ok (.iconst 1, 1) := zdL_way_0.2.2.2.2.2.2.2.2.2.2.1
theorem dL_way_16 : decode cL_way 16 = .ok (.ireturn, 1) := zdL_way_0.2.2.2.2.2.2.2.2.2.2.2.1
theorem dL_way_17 : decode cL_way 17 = .ok (.iconst 0, 1) := zdL_way_0.2.2.2.2.2.2.2.2.2.2.2.2.1
theorem dL_way_18 : decode cL_way 18 = .ok (.ireturn, 1) := zdL_way_0.2.2.2.2.2.2.2.2.2.2.2.2.2.1
set_option maxRecDepth 20000 in
theorem ggL_shrink_X6_shrink : GoodIn wsL_shrink wsX6_shrink := goodIn_ca (goodIn_ca (goodIn_r _ [7, 8, 9, 10, 11, 12, 13, 14, 15, 6, 16, 17, 18, 19, 20, 21, 22, 23, 24, 25, 26, 27, 28, 29, 30, 31, 32, 33, 34, 35, 36, 37, 38, 39, 40, 41, 42, 43, 44, 45, 46, 47, 48, 49, 50, 51, 52, 53, 54, 55, 56, 57, 58, 59, 60, 61, 62, 63, 64, 65, 66, 67, 68, 69, 70, 71, 72, 73, 74, 75, 76, 77, 78, 79, 80, 81, 82, 83, 84, 85, 86, 87, 88, 89, 90, 91, 92, 93, 94, 95, 96, 97, 98, 99, 100, 101, 102, 103, 104, 105, 106, 107, 108, 109, 110, 111, 112, 113, 114, 115, 116, 117, 118, 119, 120, 121, 122, 123, 124, 125, 126, 127, 128, 129, 130, 131, 132, 133, 134] rfl (by decide +kernel)) (goodIn_sub (fun _ h => List.mem_cons_of_mem _ (List.mem_append_left _ (List.mem_append_right _ h))) (by decide +kernel))) (goodIn_sub (fun _ h => List.mem_cons_of_mem _ (List.mem_append_right _ h)) (by decide +kernel))
set_option maxRecDepth 20000 in
theorem gL_shrink_X6_shrink : GoodIn wsL_shrink (wsV RL 33 RX6 yX6_shrink wsX6_shrink) := goodIn_app (goodIn_of _ (by decide +kernel)) ggL_shrink_X6_shrink
set_option maxRecDepth 20000 in
theorem zdL_shrink_0 : dAll cL_shrink [(0, .aload_n 2, 1), (1, .iconst 0, 1), (2, .aload_n 0, 1), (3, .iload_n 1, 1), (4, .invokevirtual 33, 3), (7, .i2l, 1), (8, .lastore, 1), (9, .goto 9, 3), (12, .astore_n 3, 1), (13, .iconst 1, 1), (14, .ireturn, 1), (15, .astore_n 3, 1), (16, .iconst 2, 1), (17, .ireturn, 1), (18, .iconst 0, 1), (19, .ireturn, 1)] := dAll_of (by decide +kernel)
theorem dL_shrink_0 : decode cL_shrink 0 = .ok (.aload_n 2, 1) := zdL_shrink_0.1
theorem dL_shrink_1 : decode cL_shrink 1 = .ok (.iconst 0, 1) := zdL_shrink_0.2.1
theorem dL_shrink_2 : decode cL_shrink 2 = .ok (.aload_n 0, 1) := zdL_shrink_0.2.2.1
theorem dL_shrink_3 : decode cL_shrink 3 = .ok (.iload_n 1, 1) := zdL_shrink_0.2.2.2.1
theorem dL_shrink_4 : decode cL_shrink 4 = .ok (.invokevirtual 33, 3) := zdL_shrink_0.2.2.2.2.1
theorem dL_shrink_7 : decode cL_shrink 7 = .ok (.i2l, 1) := zdL_shrink_0.2.2.2.2.2.1
theorem dL_shrink_8 : decode cL_shrink 8 = .ok (.lastore, 1) := zdL_shrink_0.2.2.2.2.2.2.1
theorem dL_shrink_9 : decode cL_shrink 9 = .ok (.goto 9, 3) := zdL_shrink_0.2.2.2.2.2.2.2.1
theorem dL_shrink_12 : decode cL_shrink 12 = .ok (.astore_n 3, 1) := zdL_shrink_0.2.2.2.2.2.2.2.2.1
theorem dL_shrink_13 : decode cL_shrink 13 = .ok (.iconst 1, 1) := zdL_shrink_0.2.2.2.2.2.2.2.2.2.1
theorem dL_shrink_14 : decode cL_shrink 14 = .ok (.ireturn, 1) := zdL_shrink_0.2.2.2.2.2.2.2.2.2.2.1
theorem dL_shrink_15 : decode cL_shrink 15 = .ok (.astore_n 3, 1) := zdL_shrink_0.2.2.2.2.2.2.2.2.2.2.2.1
theorem dL_shrink_16 : decode cL_shrink 16 = .ok (.iconst 2, 1) := zdL_shrink_0.2.2.2.2.2.2.2.2.2.2.2.2.1
theorem dL_shrink_17 : decode cL_shrink 17 = .ok (.ireturn, 1) := zdL_shrink_0.2.2.2.2.2.2.2.2.2.2.2.2.2.1
theorem dL_shrink_18 : decode cL_shrink 18 = .ok (.iconst 0, 1) := zdL_shrink_0.2.2.2.2.2.2.2.2.2.2.2.2.2.2.1
theorem dL_shrink_19 : decode cL_shrink 19 = .ok (.ireturn, 1) := zdL_shrink_0.2.2.2.2.2.2.2.2.2.2.2.2.2.2.2.1
set_option maxRecDepth 20000 in
theorem ggL_find_X6_find : GoodIn wsL_find wsX6_find := goodIn_ca (goodIn_ca (goodIn_r _ [7, 8, 9, 10, 11, 12, 13, 14, 15, 6, 16, 17, 18, 19, 20, 21, 22, 23, 24, 25, 26, 27, 28, 29, 30, 31, 32, 33, 34, 35, 36, 37, 38, 39, 40, 41, 42, 43, 44, 45, 46, 47, 48, 49, 50, 51, 52, 53, 54, 55, 56, 57, 58, 59, 60, 61, 62, 63, 64, 65, 66, 67, 68, 69, 70, 71, 72, 73, 74, 75, 76, 77, 78, 79, 80, 81, 82, 83, 84, 85, 86, 87, 88, 89, 90, 91, 92, 93, 94, 95, 96, 97, 98, 99, 100, 101, 102, 103, 104, 105, 106, 107, 108, 109, 110, 111, 112, 113, 114, 115, 116, 117, 118, 119, 120, 121, 122, 123, 124, 125, 126, 127, 128, 129, 130, 131, 132, 133, 134, 135, 136, 137, 138, 139, 140, 141, 142, 143, 144, 145, 146, 147, 148, 149, 150, 151, 152, 153, 154, 155, 156, 157, 158, 159, 160, 161, 162, 163, 164, 165, 166, 167, 168, 169, 170, 171, 172, 173, 174, 175, 176, 177, 178, 179, 180, 181, 182, 183, 184, 185, 186, 187, 188] rfl (by decide +kernel)) (goodIn_sub (fun _ h => List.mem_cons_of_mem _ (List.mem_append_left _ (List.mem_append_right _ h))) (by decide +kernel))) (goodIn_sub (fun _ h => List.mem_cons_of_mem _ (List.mem_append_right _ h)) (by decide +kernel))
set_option maxRecDepth 20000 in
theorem gL_find_X6_find : GoodIn wsL_find (wsV RL 37 RX6 yX6_find wsX6_find) := goodIn_app (goodIn_of _ (by decide +kernel)) ggL_find_X6_find
set_option maxRecDepth 20000 in
theorem zdL_find_0 : dAll cL_find [(0, .aload 5, 2), (2, .iconst 0, 1), (3, .aload_n 0, 1), (4, .iload_n 1, 1), (5, .iload_n 2, 1), (6, .iload_n 3, 1), (7, .iload 4, 2), (9, .invokevirtual 37, 3), (12, .i2l, 1), (13, .lastore, 1), (14, .goto 11, 3), (17, .astore 6, 2), (19, .iconst 1, 1), (20, .ireturn, 1), (21, .astore 6, 2), (23, .iconst 2, 1), (24, .ireturn, 1), (25, .iconst 0, 1), (26, .ireturn, 1)] := dAll_of (by decide +kernel)
theorem dL_find_0 : decode cL_find 0 = .ok (.aload 5, 2) := zdL_find_0.1
theorem dL_find_2 : decode cL_find 2 = .ok (.iconst 0, 1) := zdL_find_0.2.1
theorem dL_find_3 : decode cL_find 3 = .ok (.aload_n 0, 1) := zdL_find_0.2.2.1
theorem dL_find_4 : decode cL_find 4 = .ok (.iload_n 1, 1) := zdL_find_0.2.2.2.1
theorem dL_find_5 : decode cL_find 5 = .ok (.iload_n 2, 1) := zdL_find_0.2.2.2.2.1
theorem dL_find_6 : decode cL_find 6 = .ok (.iload_n 3, 1) := zdL_find_0.2.2.2.2.2.1
theorem dL_find_7 : decode cL_find 7 = .ok (.iload 4, 2) := zdL_find_0.2.2.2.2.2.2.1
theorem dL_find_9 : decode cL_find 9 = .ok (.invokevirtual 37, 3) := zdL_find_0.2.2.2.2.2.2.2.1
theorem dL_find_12 : decode cL_find 12 = .ok (.i2l, 1) := zdL_find_0.2.2.2.2.2.2.2.2.1
theorem dL_find_13 : decode cL_find 13 = .ok (.lastore, 1) := zdL_find_0.2.2.2.2.2.2.2.2.2.1
theorem dL_find_14 : decode cL_find 14 = .ok (.goto 11, 3) := zdL_find_0.2.2.2.2.2.2.2.2.2.2.1
theorem dL_find_17 : decode cL_find 17 = .ok (.astore 6, 2) := zdL_find_0.2.2.2.2.2.2.2.2.2.2.2.1
theorem dL_find_19 : decode cL_find 19 = .ok (.iconst 1, 1) := zdL_find_0.2.2.2.2.2.2.2.2.2.2.2.2.1
theorem dL_find_20 : decode cL_find 20 = .ok (.ireturn, 1) := zdL_find_0.2.2.2.2.2.2.2.2.2.2.2.2.2.1
theorem dL_find_21 : decode cL_find 21 = .ok (.astore 6, 2) := zdL_find_0.2.2.2.2.2.2.2.2.2.2.2.2.2.2.1
theorem dL_find_23 : decode cL_find 23 = .ok (.iconst 2, 1) := zdL_find_0.2.2.2.2.2.2.2.2.2.2.2.2.2.2.2.1
theorem dL_find_24 : decode cL_find 24 = .ok (.ireturn, 1) := zdL_find_0.2.2.2.2.2.2.2.2.2.2.2.2.2.2.2.2.1
theorem dL_find_25 : decode cL_find 25 = .ok (.iconst 0, 1) := zdL_find_0.2.2.2.2.2.2.2.2.2.2.2.2.2.2.2.2.2.1
theorem dL_find_26 : decode cL_find 26 = .ok (.ireturn, 1) := zdL_find_0.2.2.2.2.2.2.2.2.2.2.2.2.2.2.2.2.2.2.1
set_option maxRecDepth 20000 in
theorem ggL_at_X6_at : GoodIn wsL_at wsX6_at := goodIn_ca (goodIn_r _ [6, 7, 8, 9, 10, 11, 12, 13, 14, 15, 16, 17, 18, 19, 20, 21, 22, 23, 24] rfl (by decide +kernel)) (goodIn_sub (fun _ h => List.mem_cons_of_mem _ (List.mem_append_right _ h)) (by decide +kernel))
set_option maxRecDepth 20000 in
theorem gL_at_X6_at : GoodIn wsL_at (wsV RL 41 RX6 yX6_at wsX6_at) := goodIn_app (goodIn_of _ (by decide +kernel)) ggL_at_X6_at
set_option maxRecDepth 20000 in
theorem zdL_at_0 : dAll cL_at [(0, .aload_n 2, 1), (1, .iconst 0, 1), (2, .aload_n 0, 1), (3, .iload_n 1, 1), (4, .invokevirtual 41, 3), (7, .i2l, 1), (8, .lastore, 1), (9, .goto 6, 3), (12, .astore_n 3, 1), (13, .iconst 1, 1), (14, .ireturn, 1), (15, .iconst 0, 1), (16, .ireturn, 1)] := dAll_of (by decide +kernel)
theorem dL_at_0 : decode cL_at 0 = .ok (.aload_n 2, 1) := zdL_at_0.1
theorem dL_at_1 : decode cL_at 1 = .ok (.iconst 0, 1) := zdL_at_0.2.1
theorem dL_at_2 : decode cL_at 2 = .ok (.aload_n 0, 1) := zdL_at_0.2.2.1
theorem dL_at_3 : decode cL_at 3 = .ok (.iload_n 1, 1) := zdL_at_0.2.2.2.1
theorem dL_at_4 : decode cL_at 4 = .ok (.invokevirtual 41, 3) := zdL_at_0.2.2.2.2.1
theorem dL_at_7 : decode cL_at 7 = .ok (.i2l, 1) := zdL_at_0.2.2.2.2.2.1
theorem dL_at_8 : decode cL_at 8 = .ok (.lastore, 1) := zdL_at_0.2.2.2.2.2.2.1
theorem dL_at_9 : decode cL_at 9 = .ok (.goto 6, 3) := zdL_at_0.2.2.2.2.2.2.2.1
theorem dL_at_12 : decode cL_at 12 = .ok (.astore_n 3, 1) := zdL_at_0.2.2.2.2.2.2.2.2.1
theorem dL_at_13 : decode cL_at 13 = .ok (.iconst 1, 1) := zdL_at_0.2.2.2.2.2.2.2.2.2.1
theorem dL_at_14 : decode cL_at 14 = .ok (.ireturn, 1) := zdL_at_0.2.2.2.2.2.2.2.2.2.2.1
theorem dL_at_15 : decode cL_at 15 = .ok (.iconst 0, 1) := zdL_at_0.2.2.2.2.2.2.2.2.2.2.2.1
theorem dL_at_16 : decode cL_at 16 = .ok (.ireturn, 1) := zdL_at_0.2.2.2.2.2.2.2.2.2.2.2.2.1
set_option maxRecDepth 20000 in
theorem ggL_sign_X6_sign : GoodIn wsL_sign wsX6_sign := goodIn_ca (goodIn_ca (goodIn_r _ [7, 8, 9, 10, 11, 12, 13, 14, 15, 16, 17, 18, 19, 20, 21, 22, 23, 24, 25, 26, 27, 28, 29, 30, 31, 32, 33, 34, 35, 36] rfl (by decide +kernel)) (goodIn_sub (fun _ h => List.mem_cons_of_mem _ (List.mem_append_left _ (List.mem_append_right _ h))) (by decide +kernel))) (goodIn_sub (fun _ h => List.mem_cons_of_mem _ (List.mem_append_right _ h)) (by decide +kernel))
set_option maxRecDepth 20000 in
theorem gL_sign_X6_sign : GoodIn wsL_sign (wsV RL 44 RX6 yX6_sign wsX6_sign) := goodIn_app (goodIn_of _ (by decide +kernel)) ggL_sign_X6_sign
set_option maxRecDepth 20000 in
theorem zdL_sign_0 : dAll cL_sign [(0, .aload 4, 2), (2, .iconst 0, 1), (3, .aload_n 0, 1), (4, .lload_n 1, 1), (5, .iload_n 3, 1), (6, .invokevirtual 44, 3), (9, .i2l, 1), (10, .lastore, 1), (11, .goto 11, 3), (14, .astore 5, 2), (16, .iconst 1, 1), (17, .ireturn, 1), (18, .astore 5, 2), (20, .iconst 2, 1), (21, .ireturn, 1), (22, .iconst 0, 1), (23, .ireturn, 1)] := dAll_of (by decide +kernel)
theorem dL_sign_0 : decode cL_sign 0 = .ok (.aload 4, 2) := zdL_sign_0.1
theorem dL_sign_2 : decode cL_sign 2 = .ok (.iconst 0, 1) := zdL_sign_0.2.1
theorem dL_sign_3 : decode cL_sign 3 = .ok (.aload_n 0, 1) := zdL_sign_0.2.2.1
theorem dL_sign_4 : decode cL_sign 4 = .ok (.lload_n 1, 1) := zdL_sign_0.2.2.2.1
theorem dL_sign_5 : decode cL_sign 5 = .ok (.iload_n 3, 1) := zdL_sign_0.2.2.2.2.1
theorem dL_sign_6 : decode cL_sign 6 = .ok (.invokevirtual 44, 3) := zdL_sign_0.2.2.2.2.2.1
theorem dL_sign_9 : decode cL_sign 9 = .ok (.i2l, 1) := zdL_sign_0.2.2.2.2.2.2.1
theorem dL_sign_10 : decode cL_sign 10 = .ok (.lastore, 1) := zdL_sign_0.2.2.2.2.2.2.2.1
theorem dL_sign_11 : decode cL_sign 11 = .ok (.goto 11, 3) := zdL_sign_0.2.2.2.2.2.2.2.2.1
theorem dL_sign_14 : decode cL_sign 14 = .ok (.astore 5, 2) := zdL_sign_0.2.2.2.2.2.2.2.2.2.1
theorem dL_sign_16 : decode cL_sign 16 = .ok (.iconst 1, 1) := zdL_sign_0.2.2.2.2.2.2.2.2.2.2.1
theorem dL_sign_17 : decode cL_sign 17 = .ok (.ireturn, 1) := zdL_sign_0.2.2.2.2.2.2.2.2.2.2.2.1
theorem dL_sign_18 : decode cL_sign 18 = .ok (.astore 5, 2) := zdL_sign_0.2.2.2.2.2.2.2.2.2.2.2.2.1
theorem dL_sign_20 : decode cL_sign 20 = .ok (.iconst 2, 1) := zdL_sign_0.2.2.2.2.2.2.2.2.2.2.2.2.2.1
theorem dL_sign_21 : decode cL_sign 21 = .ok (.ireturn, 1) := zdL_sign_0.2.2.2.2.2.2.2.2.2.2.2.2.2.2.1
theorem dL_sign_22 : decode cL_sign 22 = .ok (.iconst 0, 1) := zdL_sign_0.2.2.2.2.2.2.2.2.2.2.2.2.2.2.2.1
theorem dL_sign_23 : decode cL_sign 23 = .ok (.ireturn, 1) := zdL_sign_0.2.2.2.2.2.2.2.2.2.2.2.2.2.2.2.2.1
set_option maxRecDepth 20000 in
theorem ggL_count_X6_count : GoodIn wsL_count wsX6_count := goodIn_ca (goodIn_r _ [6, 7, 8, 9, 10, 11, 12, 13, 14, 15, 16, 17, 18, 19, 20, 21, 22, 23, 24, 25, 26, 5, 27, 28, 29, 30, 31, 32, 33, 34, 35, 36, 37, 38, 39, 40, 41, 42, 43, 44, 45, 46, 47, 48, 49, 50, 51, 52, 53, 54, 55, 56, 57, 58, 59, 60, 61, 62, 63, 64, 65, 66, 67, 68, 69, 70, 71, 72, 73, 74, 75, 76, 77, 78, 79, 80, 81, 82, 83, 84, 85, 86, 87, 88, 89, 90, 91] rfl (by decide +kernel)) (goodIn_sub (fun _ h => List.mem_cons_of_mem _ (List.mem_append_right _ h)) (by decide +kernel))
set_option maxRecDepth 20000 in
theorem gL_count_X6_count : GoodIn wsL_count (wsV RL 50 RX6 yX6_count wsX6_count) := goodIn_app (goodIn_of _ (by decide +kernel)) ggL_count_X6_count
set_option maxRecDepth 20000 in
theorem zdL_count_0 : dAll cL_count [(0, .aload_n 2, 1), (1, .iconst 0, 1), (2, .aload_n 0, 1), (3, .iload_n 1, 1), (4, .invokevirtual 50, 3), (7, .i2l, 1), (8, .lastore, 1), (9, .goto 6, 3), (12, .astore_n 3, 1), (13, .iconst 1, 1), (14, .ireturn, 1), (15, .iconst 0, 1), (16, .ireturn, 1)] := dAll_of (by decide +kernel)
theorem dL_count_0 : decode cL_count 0 = .ok (.aload_n 2, 1) := zdL_count_0.1
theorem dL_count_1 : decode cL_count 1 = .ok (.iconst 0, 1) := zdL_count_0.2.1
theorem dL_count_2 : decode cL_count 2 = .ok (.aload_n 0, 1) := zdL_count_0.2.2.1
theorem dL_count_3 : decode cL_count 3 = .ok (.iload_n 1, 1) := zdL_count_0.2.2.2.1
theorem dL_count_4 : decode cL_count 4 = .ok (.invokevirtual 50, 3) := zdL_count_0.2.2.2.2.1
theorem dL_count_7 : decode cL_count 7 = .ok (.i2l, 1) := zdL_count_0.2.2.2.2.2.1
theorem dL_count_8 : decode cL_count 8 = .ok (.lastore, 1) := zdL_count_0.2.2.2.2.2.2.1
theorem dL_count_9 : decode cL_count 9 = .ok (.goto 6, 3) := zdL_count_0.2.2.2.2.2.2.2.1
theorem dL_count_12 : decode cL_count 12 = .ok (.astore_n 3, 1) := zdL_count_0.2.2.2.2.2.2.2.2.1
theorem dL_count_13 : decode cL_count 13 = .ok (.iconst 1, 1) := zdL_count_0.2.2.2.2.2.2.2.2.2.1
theorem dL_count_14 : decode cL_count 14 = .ok (.ireturn, 1) := zdL_count_0.2.2.2.2.2.2.2.2.2.2.1
theorem dL_count_15 : decode cL_count 15 = .ok (.iconst 0, 1) := zdL_count_0.2.2.2.2.2.2.2.2.2.2.2.1
theorem dL_count_16 : decode cL_count 16 = .ok (.ireturn, 1) := zdL_count_0.2.2.2.2.2.2.2.2.2.2.2.2.1
set_option maxRecDepth 20000 in
set_option maxHeartbeats 4000000 in
theorem ggL_law_X6_init : GoodIn wsL_law wsX6_init := goodIn_c _ [(0, 10), (0, 11), (0, 12), (0, 13), (0, 14), (0, 15), (0, 16), (0, 17), (0, 18), (0, 19), (0, 20), (0, 21), (0, 22), (0, 23), (1, 0), (1, 1), (1, 2), (1, 3), (1, 4), (1, 5), (1, 6), (1, 7), (1, 8), (1, 9), (1, 10), (1, 11), (1, 12), (1, 13), (1, 14), (1, 15), (1, 16), (1, 17), (1, 18), (1, 19), (1, 20), (1, 21), (1, 22), (1, 23), (2, 0), (2, 1), (2, 2), (2, 3), (2, 4), (2, 5), (2, 6), (2, 7), (2, 8), (2, 9), (2, 10), (2, 11), (2, 12), (2, 13), (2, 14), (2, 15), (2, 16), (2, 17), (2, 18), (2, 19), (2, 20), (2, 21), (2, 22), (2, 23), (3, 0), (3, 1), (3, 2), (3, 3), (3, 4), (3, 5), (3, 6), (3, 7), (3, 8), (3, 9), (3, 10), (3, 11), (3, 12), (3, 13), (3, 14), (3, 15), (3, 16), (3, 17), (3, 18), (3, 19), (3, 20), (3, 21), (3, 22), (3, 23), (4, 0), (4, 1), (4, 2), (4, 3), (4, 4), (4, 5), (4, 6), (4, 7), (4, 8), (4, 9), (4, 10), (4, 11), (4, 12), (4, 13), (4, 14), (4, 15), (4, 16), (4, 17), (4, 18), (4, 19), (4, 20), (4, 21), (0, 2), (4, 22), (4, 23), (5, 0), (5, 1), (5, 2), (5, 3), (5, 4), (5, 5), (5, 6), (5, 7), (5, 8), (5, 9), (5, 10), (5, 11), (5, 12), (5, 13), (5, 14), (5, 15), (5, 16), (5, 17), (5, 18), (5, 19), (5, 20), (5, 21), (5, 22), (28, 0), (28, 1), (28, 2), (28, 3), (28, 4), (28, 5), (28, 6), (28, 7), (26, 0), (26, 1), (26, 2), (26, 3), (26, 4), (29, 0), (30, 0), (31, 0), (31, 1), (31, 2), (31, 3), (31, 4), (31, 5), (32, 0), (32, 1), (33, 0), (33, 1)] rfl (by decide +kernel)
set_option maxRecDepth 20000 in
theorem gL_law_X6_init : GoodIn wsL_law (wsX6_init) := ggL_law_X6_init
set_option maxRecDepth 20000 in
set_option maxHeartbeats 4000000 in
theorem ggL_law_X7_init : GoodIn wsL_law wsX7_init := goodIn_c _ [(6, 1), (6, 2), (0, 12), (0, 13), (1, 14), (6, 3), (1, 11), (6, 4), (6, 5), (6, 6), (6, 7), (6, 8), (6, 9), (6, 10), (6, 11), (6, 12), (6, 13), (6, 14), (0, 5), (6, 15), (6, 16), (6, 17), (6, 18), (6, 19), (6, 20), (6, 21), (6, 22), (6, 23), (7, 0), (7, 1), (7, 2), (7, 3), (7, 4), (7, 5), (7, 6), (7, 7), (7, 8), (7, 9), (27, 0), (27, 1), (27, 2), (27, 3), (27, 4), (27, 5), (27, 6), (27, 7), (27, 8), (27, 9), (27, 10), (27, 11), (27, 12), (27, 13), (27, 14), (27, 15), (27, 16), (27, 17), (27, 18)] rfl (by decide +kernel)
set_option maxRecDepth 20000 in
theorem gL_law_X7_init : GoodIn wsL_law (wsX7_init) := ggL_law_X7_init
set_option maxRecDepth 20000 in
set_option maxHeartbeats 4000000 in
theorem ggL_law_L_draw : GoodIn wsL_law wsL_draw := goodIn_ca (goodIn_c _ [(7, 13), (7, 14), (7, 15), (7, 16), (7, 17), (0, 2), (7, 18), (7, 19), (7, 20), (0, 17), (7, 21), (7, 22), (7, 23), (3, 5), (3, 6), (3, 7), (0, 16), (3, 8), (3, 9), (3, 10), (3, 11), (3, 12), (3, 13), (3, 14), (3, 15), (1, 12), (1, 13), (1, 15), (1, 16), (1, 17), (3, 16), (3, 17), (3, 18), (3, 19), (3, 20), (3, 21), (3, 22), (3, 23), (4, 0), (4, 1), (4, 2), (4, 3), (4, 4), (4, 5), (4, 6), (4, 7), (4, 8), (4, 9), (4, 10), (4, 11), (4, 12), (4, 13), (4, 14), (4, 15), (4, 16), (4, 17), (4, 18), (4, 19), (4, 20), (4, 21), (4, 22), (4, 23), (5, 0), (5, 1), (5, 2), (5, 3), (5, 4), (5, 5), (5, 6), (5, 7), (5, 8), (5, 9), (5, 10), (5, 11), (5, 12), (5, 13), (5, 14), (5, 15), (5, 16), (5, 17), (5, 18), (5, 19), (5, 20), (5, 21), (5, 22), (8, 0), (8, 1), (8, 2), (8, 3), (26, 0), (26, 1), (26, 2), (26, 3), (26, 4), (28, 0), (28, 1), (28, 2), (28, 3), (28, 4), (28, 5), (28, 6), (28, 7)] rfl (by decide +kernel)) (goodIn_sub (fun _ h => List.mem_append_left _ (List.mem_append_left _ (List.mem_append_left _ (List.mem_append_right _ h)))) (by decide +kernel))
set_option maxRecDepth 20000 in
theorem gL_law_L_draw : GoodIn wsL_law (va_wsS RL 57 yL_draw wsL_draw) := goodIn_app (goodIn_c _ [(7, 10), (7, 11), (7, 12)] rfl (by decide +kernel)) ggL_law_L_draw
set_option maxRecDepth 20000 in
set_option maxHeartbeats 4000000 in
theorem ggL_law_X7_draw : GoodIn wsL_law wsX7_draw := goodIn_c _ [(8, 7), (8, 8), (8, 9), (0, 5), (8, 10), (8, 11), (8, 12), (8, 13), (8, 14), (8, 15), (6, 12), (6, 13), (6, 14), (6, 15), (6, 16), (6, 17), (6, 18), (6, 19), (6, 4), (6, 7), (6, 20), (6, 21), (6, 22), (6, 23), (6, 3), (6, 5), (6, 6), (7, 0), (7, 1), (7, 2), (7, 3), (7, 4), (7, 5), (7, 6), (7, 7), (7, 8), (7, 9), (8, 16), (8, 17), (8, 18), (8, 19), (8, 20), (8, 21), (8, 22), (8, 23), (27, 0), (27, 1), (27, 2), (27, 3), (27, 4), (27, 5), (27, 6), (27, 7), (27, 8), (27, 9), (27, 10), (27, 11), (27, 12), (27, 13), (27, 14), (27, 15), (27, 16), (27, 17), (27, 18)] rfl (by decide +kernel)
set_option maxRecDepth 20000 in
theorem gL_law_X7_draw : GoodIn wsL_law (wsV RL 62 RX7 yX7_draw wsX7_draw) := goodIn_app (goodIn_c _ [(8, 4), (8, 5), (8, 6), (0, 5)] rfl (by decide +kernel)) ggL_law_X7_draw
set_option maxRecDepth 20000 in
set_option maxHeartbeats 4000000 in
theorem ggL_law_L_part : GoodIn wsL_law wsL_part := goodIn_ca (goodIn_c _ [(9, 2), (9, 3), (9, 4), (9, 5), (9, 6), (0, 2), (9, 7), (9, 8), (9, 9), (0, 17), (9, 10), (4, 21), (4, 22), (9, 11), (9, 12), (9, 13), (0, 16), (9, 14), (1, 13), (9, 15), (9, 16), (9, 17), (9, 18), (1, 12), (9, 19), (9, 20), (9, 21), (9, 22), (9, 23), (10, 0), (10, 1), (1, 15), (10, 2), (10, 3), (10, 4), (10, 5), (1, 16), (10, 6), (10, 7), (10, 8), (10, 9), (1, 17), (26, 0), (26, 1), (26, 2), (26, 3), (26, 4), (28, 0), (28, 1), (28, 2), (28, 3), (28, 4), (28, 5), (28, 6), (28, 7)] rfl (by decide +kernel)) (goodIn_sub (fun _ h => List.mem_append_left _ (List.mem_append_left _ (List.mem_append_right _ h))) (by decide +kernel))
set_option maxRecDepth 20000 in
theorem gL_law_L_part : GoodIn wsL_law (va_wsS RL 63 yL_part wsL_part) := goodIn_app (goodIn_c _ [(9, 0), (9, 1), (7, 12)] rfl (by decide +kernel)) ggL_law_L_part
set_option maxRecDepth 20000 in
set_option maxHeartbeats 4000000 in
theorem ggL_law_X7_part : GoodIn wsL_law wsX7_part := goodIn_c _ [(10, 13), (6, 4), (6, 3), (6, 5), (6, 6), (6, 7), (10, 14), (10, 15), (0, 5), (10, 16), (8, 8), (8, 9), (8, 10), (8, 11), (8, 12), (8, 13), (8, 14), (8, 15), (27, 0), (27, 1), (27, 2), (27, 3), (27, 4), (27, 5), (27, 6), (27, 7), (27, 8), (27, 9), (27, 10), (27, 11), (27, 12), (27, 13), (27, 14), (27, 15), (27, 16), (27, 17), (27, 18)] rfl (by decide +kernel)
set_option maxRecDepth 20000 in
theorem gL_law_X7_part : GoodIn wsL_law (wsV RL 65 RX7 yX7_part wsX7_part) := goodIn_app (goodIn_c _ [(10, 10), (10, 11), (10, 12), (0, 5)] rfl (by decide +kernel)) ggL_law_X7_part
set_option maxRecDepth 20000 in
set_option maxHeartbeats 4000000 in
theorem ggL_law_L_leave : GoodIn wsL_law wsL_leave := goodIn_ca (goodIn_ca (goodIn_c _ [(10, 19), (9, 3), (10, 20), (10, 21), (10, 22), (10, 23), (0, 2), (11, 0), (9, 8), (9, 9), (11, 1), (11, 2), (0, 17), (9, 15), (9, 16), (9, 17), (0, 16), (9, 18), (1, 12), (4, 21), (4, 22), (9, 11), (9, 12), (9, 13), (9, 14), (1, 13), (11, 3), (11, 4), (11, 5), (11, 6), (11, 7), (26, 0), (26, 1), (26, 2), (26, 3), (26, 4), (28, 0), (28, 1), (28, 2), (28, 3), (28, 4), (28, 5), (28, 6), (28, 7)] rfl (by decide +kernel)) (goodIn_sub (fun _ h => List.mem_append_left _ (List.mem_append_left _ (List.mem_append_right _ h))) (by decide +kernel))) (goodIn_sub (fun _ h => List.mem_append_left _ (List.mem_append_right _ h)) (by decide +kernel))
set_option maxRecDepth 20000 in
theorem gL_law_L_leave : GoodIn wsL_law (va_wsS RL 66 yL_leave wsL_leave) := goodIn_app (goodIn_c _ [(10, 17), (10, 18), (7, 12)] rfl (by decide +kernel)) ggL_law_L_leave
set_option maxRecDepth 20000 in
set_option maxHeartbeats 4000000 in
theorem ggL_law_X7_leave : GoodIn wsL_law wsX7_leave := goodIn_c _ [(11, 11), (6, 3), (6, 4), (10, 14), (10, 15), (0, 5), (10, 16), (8, 8), (8, 9), (8, 10), (8, 11), (8, 12), (8, 13), (8, 14), (8, 15), (27, 0), (27, 1), (27, 2), (27, 3), (27, 4), (27, 5), (27, 6), (27, 7), (27, 8), (27, 9), (27, 10), (27, 11), (27, 12), (27, 13), (27, 14), (27, 15), (27, 16), (27, 17), (27, 18)] rfl (by decide +kernel)
set_option maxRecDepth 20000 in
theorem gL_law_X7_leave : GoodIn wsL_law (wsV RL 69 RX7 yX7_leave wsX7_leave) := goodIn_app (goodIn_c _ [(11, 8), (11, 9), (11, 10), (0, 5)] rfl (by decide +kernel)) ggL_law_X7_leave
set_option maxRecDepth 20000 in
set_option maxHeartbeats 4000000 in
theorem ggL_law_L_holds : GoodIn wsL_law wsL_holds := goodIn_ca (goodIn_c _ [(11, 14), (9, 3), (11, 15), (11, 16), (11, 17), (0, 2), (11, 18), (9, 8), (9, 9), (0, 22), (0, 17), (11, 19), (11, 20), (11, 21), (11, 22), (11, 23), (12, 0), (0, 21), (12, 1), (12, 2), (12, 3), (12, 4), (12, 5), (2, 1), (12, 6), (12, 7), (12, 8), (2, 0), (12, 9), (2, 7), (12, 10), (9, 23), (10, 0), (0, 16), (10, 1), (1, 15), (4, 21), (4, 22), (12, 11), (9, 12), (9, 13), (9, 14), (1, 13), (12, 12), (12, 13), (12, 14), (10, 3), (10, 4), (10, 5), (1, 16), (12, 15), (12, 16), (12, 17), (12, 18), (12, 19), (12, 20), (12, 21), (12, 22), (12, 23), (13, 0), (13, 1), (13, 2), (13, 3), (13, 4), (13, 5), (13, 6), (13, 7), (13, 8), (13, 9), (13, 10), (13, 11), (13, 12), (13, 13), (10, 7), (10, 8), (10, 9), (1, 17), (13, 14), (13, 15), (13, 16), (13, 17), (13, 18), (13, 19), (13, 20), (13, 21), (13, 22), (13, 23), (14, 0), (2, 6), (14, 1), (14, 2), (14, 3), (14, 4), (14, 5), (14, 6), (14, 7), (14, 8), (14, 9), (14, 10), (14, 11), (14, 12), (14, 13), (26, 0), (26, 1), (26, 2), (26, 3), (26, 4), (29, 0), (32, 0), (32, 1), (28, 0), (28, 1), (28, 2), (28, 3), (28, 4), (28, 5), (28, 6), (28, 7)] rfl (by decide +kernel)) (goodIn_sub (fun _ h => List.mem_append_left _ (List.mem_append_left _ (List.mem_append_right _ h))) (by decide +kernel))
set_option maxRecDepth 20000 in
theorem gL_law_L_holds : GoodIn wsL_law (va_wsS RL 70 yL_holds wsL_holds) := goodIn_app (goodIn_c _ [(11, 12), (11, 13), (7, 12)] rfl (by decide +kernel)) ggL_law_L_holds
set_option maxRecDepth 20000 in
set_option maxHeartbeats 4000000 in
theorem ggL_law_X7_holds : GoodIn wsL_law wsX7_holds := goodIn_c _ [(14, 17), (8, 8), (8, 9), (0, 5), (8, 10), (8, 11), (8, 12), (8, 13), (8, 14), (8, 15), (14, 18), (14, 19), (14, 20), (14, 21), (6, 3), (6, 4), (6, 6), (6, 7), (14, 22), (14, 23), (15, 0), (15, 1), (6, 5), (6, 9), (15, 2), (15, 3), (15, 4), (15, 5), (15, 6), (15, 7), (15, 8), (15, 9), (15, 10), (15, 11), (15, 12), (15, 13), (15, 14), (15, 15), (27, 0), (27, 1), (27, 2), (27, 3), (27, 4), (27, 5), (27, 6), (27, 7), (27, 8), (27, 9), (27, 10), (27, 11), (27, 12), (27, 13), (27, 14), (27, 15), (27, 16), (27, 17), (27, 18)] rfl (by decide +kernel)
set_option maxRecDepth 20000 in
theorem gL_law_X7_holds : GoodIn wsL_law (wsV RL 73 RX7 yX7_holds wsX7_holds) := goodIn_app (goodIn_c _ [(14, 14), (14, 15), (14, 16), (0, 5)] rfl (by decide +kernel)) ggL_law_X7_holds
set_option maxRecDepth 20000 in
set_option maxHeartbeats 4000000 in
theorem ggL_law_L_way : GoodIn wsL_law wsL_way := goodIn_ca (goodIn_c _ [(15, 18), (9, 3), (15, 19), (15, 20), (15, 21), (0, 2), (15, 22), (9, 8), (9, 9), (0, 17), (0, 22), (15, 23), (5, 12), (5, 13), (0, 16), (5, 14), (3, 10), (16, 0), (5, 20), (5, 21), (5, 22), (16, 1), (16, 2), (16, 3), (0, 21), (16, 4), (2, 1), (12, 19), (9, 12), (9, 13), (9, 14), (1, 13), (4, 21), (4, 22), (12, 20), (9, 23), (10, 0), (10, 1), (1, 15), (13, 21), (13, 22), (13, 23), (2, 0), (14, 0), (2, 6), (14, 1), (12, 11), (12, 10), (12, 14), (10, 3), (10, 4), (10, 5), (1, 16), (14, 2), (10, 7), (10, 8), (10, 9), (1, 17), (14, 3), (14, 4), (14, 5), (14, 6), (12, 12), (12, 13), (14, 7), (14, 8), (14, 9), (14, 10), (26, 0), (26, 1), (26, 2), (26, 3), (26, 4), (28, 0), (28, 1), (28, 2), (28, 3), (28, 4), (28, 5), (28, 6), (28, 7), (29, 0), (32, 0), (32, 1)] rfl (by decide +kernel)) (goodIn_sub (fun _ h => List.mem_append_left _ (List.mem_append_left _ (List.mem_append_right _ h))) (by decide +kernel))
set_option maxRecDepth 20000 in
theorem gL_law_L_way : GoodIn wsL_law (va_wsS RL 74 yL_way wsL_way) := goodIn_app (goodIn_c _ [(15, 16), (15, 17), (7, 12)] rfl (by decide +kernel)) ggL_law_L_way
set_option maxRecDepth 20000 in
set_option maxHeartbeats 4000000 in
theorem ggL_law_X7_way : GoodIn wsL_law wsX7_way := goodIn_c _ [(16, 8), (6, 18), (6, 19), (6, 4), (6, 5), (6, 9), (15, 2), (8, 8), (8, 9), (0, 5), (8, 10), (8, 11), (8, 12), (8, 13), (8, 14), (8, 15), (15, 3), (15, 4), (15, 5), (15, 6), (6, 6), (6, 7), (27, 0), (27, 1), (27, 2), (27, 3), (27, 4), (27, 5), (27, 6), (27, 7), (27, 8), (27, 9), (27, 10), (27, 11), (27, 12), (27, 13), (27, 14), (27, 15), (27, 16), (27, 17), (27, 18)] rfl (by decide +kernel)
set_option maxRecDepth 20000 in
theorem gL_law_X7_way : GoodIn wsL_law (wsV RL 76 RX7 yX7_way wsX7_way) := goodIn_app (goodIn_c _ [(16, 5), (16, 6), (16, 7), (0, 5)] rfl (by decide +kernel)) ggL_law_X7_way
set_option maxRecDepth 20000 in
set_option maxHeartbeats 4000000 in
theorem ggL_law_L_shrink : GoodIn wsL_law wsL_shrink := goodIn_ca (goodIn_ca (goodIn_c _ [(16, 11), (9, 3), (10, 20), (16, 12), (16, 13), (16, 14), (0, 2), (16, 15), (9, 8), (9, 9), (11, 1), (11, 2), (0, 22), (0, 17), (11, 19), (11, 20), (11, 21), (11, 22), (11, 23), (12, 0), (0, 21), (12, 1), (12, 2), (12, 3), (12, 4), (12, 5), (2, 1), (12, 6), (12, 7), (12, 8), (2, 0), (12, 9), (2, 7), (12, 10), (9, 23), (10, 0), (0, 16), (10, 1), (1, 15), (4, 21), (4, 22), (12, 11), (9, 12), (9, 13), (9, 14), (1, 13), (12, 12), (12, 13), (12, 14), (10, 3), (10, 4), (10, 5), (1, 16), (12, 15), (12, 16), (12, 17), (12, 18), (12, 19), (12, 20), (12, 21), (12, 22), (12, 23), (13, 0), (13, 1), (13, 2), (13, 3), (13, 4), (13, 5), (13, 6), (13, 7), (13, 8), (13, 9), (13, 10), (13, 11), (13, 12), (13, 13), (10, 7), (10, 8), (10, 9), (1, 17), (13, 14), (13, 15), (13, 16), (13, 17), (13, 18), (13, 19), (13, 20), (13, 21), (13, 22), (13, 23), (14, 0), (2, 6), (14, 1), (14, 2), (14, 3), (14, 4), (14, 5), (14, 6), (14, 7), (14, 8), (14, 9), (14, 10), (14, 11), (14, 12), (14, 13), (16, 16), (16, 17), (16, 18), (16, 19), (16, 20), (11, 4), (11, 5), (11, 6), (11, 7), (9, 16), (9, 17), (9, 18), (1, 12), (16, 21), (26, 0), (26, 1), (26, 2), (26, 3), (26, 4), (29, 0), (32, 0), (32, 1), (28, 0), (28, 1), (28, 2), (28, 3), (28, 4), (28, 5), (28, 6), (28, 7)] rfl (by decide +kernel)) (goodIn_sub (fun _ h => List.mem_append_left _ (List.mem_append_left _ (List.mem_append_right _ h))) (by decide +kernel))) (goodIn_sub (fun _ h => List.mem_append_left _ (List.mem_append_right _ h)) (by decide +kernel))
set_option maxRecDepth 20000 in
theorem gL_law_L_shrink : GoodIn wsL_law (va_wsS RL 77 yL_shrink wsL_shrink) := goodIn_app (goodIn_c _ [(16, 9), (16, 10), (7, 12)] rfl (by decide +kernel)) ggL_law_L_shrink
set_option maxRecDepth 20000 in
set_option maxHeartbeats 4000000 in
theorem ggL_law_X7_shrink : GoodIn wsL_law wsX7_shrink := goodIn_c _ [(17, 1), (6, 4), (8, 8), (8, 9), (0, 5), (8, 10), (14, 18), (14, 19), (14, 20), (14, 21), (6, 3), (6, 6), (6, 7), (14, 22), (14, 23), (15, 0), (15, 1), (6, 5), (6, 9), (15, 2), (15, 3), (15, 4), (15, 5), (15, 6), (15, 7), (15, 8), (15, 9), (15, 10), (15, 11), (15, 12), (15, 13), (15, 14), (15, 15), (8, 11), (8, 12), (8, 13), (8, 14), (8, 15), (27, 0), (27, 1), (27, 2), (27, 3), (27, 4), (27, 5), (27, 6), (27, 7), (27, 8), (27, 9), (27, 10), (27, 11), (27, 12), (27, 13), (27, 14), (27, 15), (27, 16), (27, 17), (27, 18)] rfl (by decide +kernel)
set_option maxRecDepth 20000 in
theorem gL_law_X7_shrink : GoodIn wsL_law (wsV RL 79 RX7 yX7_shrink wsX7_shrink) := goodIn_app (goodIn_c _ [(16, 22), (16, 23), (17, 0), (0, 5)] rfl (by decide +kernel)) ggL_law_X7_shrink
set_option maxRecDepth 20000 in
set_option maxHeartbeats 4000000 in
theorem ggL_law_L_find : GoodIn wsL_law wsL_find := goodIn_ca (goodIn_ca (goodIn_c _ [(17, 4), (9, 3), (7, 14), (17, 5), (17, 6), (17, 7), (0, 2), (17, 8), (9, 8), (9, 9), (7, 19), (7, 20), (0, 18), (0, 22), (11, 19), (11, 20), (11, 21), (7, 21), (7, 22), (7, 23), (3, 5), (3, 6), (3, 7), (0, 16), (3, 8), (3, 9), (3, 10), (3, 11), (3, 12), (3, 13), (3, 14), (3, 15), (1, 12), (1, 13), (1, 15), (1, 16), (1, 17), (3, 16), (3, 17), (3, 18), (3, 19), (3, 20), (3, 21), (3, 22), (3, 23), (4, 0), (4, 1), (4, 2), (4, 3), (4, 4), (4, 5), (4, 6), (4, 7), (4, 8), (4, 9), (4, 10), (4, 11), (4, 12), (4, 13), (4, 14), (4, 15), (4, 16), (4, 17), (4, 18), (4, 19), (4, 20), (4, 21), (4, 22), (4, 23), (5, 0), (5, 1), (5, 2), (5, 3), (5, 4), (5, 5), (5, 6), (5, 7), (5, 8), (5, 9), (5, 10), (5, 11), (5, 12), (5, 13), (5, 14), (5, 15), (5, 16), (5, 17), (5, 18), (5, 19), (5, 20), (5, 21), (5, 22), (11, 22), (11, 23), (12, 0), (0, 21), (12, 1), (12, 2), (12, 3), (12, 4), (12, 5), (2, 1), (12, 6), (12, 7), (12, 8), (2, 0), (12, 9), (2, 7), (12, 10), (9, 23), (10, 0), (10, 1), (12, 11), (9, 12), (9, 13), (9, 14), (12, 12), (12, 13), (12, 14), (10, 3), (10, 4), (10, 5), (12, 15), (12, 16), (12, 17), (12, 18), (12, 19), (12, 20), (12, 21), (12, 22), (12, 23), (13, 0), (13, 1), (13, 2), (13, 3), (13, 4), (13, 5), (13, 6), (13, 7), (13, 8), (13, 9), (13, 10), (13, 11), (13, 12), (13, 13), (10, 7), (10, 8), (10, 9), (13, 14), (13, 15), (13, 16), (13, 17), (13, 18), (13, 19), (13, 20), (13, 21), (13, 22), (13, 23), (14, 0), (2, 6), (14, 1), (14, 2), (14, 3), (14, 4), (14, 5), (14, 6), (14, 7), (14, 8), (14, 9), (14, 10), (14, 11), (14, 12), (14, 13), (26, 0), (26, 1), (26, 2), (26, 3), (26, 4), (28, 0), (28, 1), (28, 2), (28, 3), (28, 4), (28, 5), (28, 6), (28, 7), (29, 0), (32, 0), (32, 1)] rfl (by decide +kernel)) (goodIn_sub (fun _ h => List.mem_append_left _ (List.mem_append_left _ (List.mem_append_right _ h))) (by decide +kernel))) (goodIn_sub (fun _ h => List.mem_append_left _ (List.mem_append_left _ (List.mem_append_left _ (List.mem_append_right _ h)))) (by decide +kernel))
set_option maxRecDepth 20000 in
theorem gL_law_L_find : GoodIn wsL_law (va_wsS RL 80 yL_find wsL_find) := goodIn_app (goodIn_c _ [(17, 2), (17, 3), (7, 12)] rfl (by decide +kernel)) ggL_law_L_find
set_option maxRecDepth 20000 in
set_option maxHeartbeats 4000000 in
theorem ggL_law_X7_find : GoodIn wsL_law wsX7_find := goodIn_c _ [(17, 12), (6, 16), (6, 17), (6, 8), (6, 4), (8, 8), (8, 9), (0, 5), (8, 10), (8, 11), (8, 12), (8, 13), (8, 14), (8, 15), (6, 12), (6, 13), (6, 14), (6, 15), (6, 18), (6, 19), (6, 7), (6, 20), (6, 21), (6, 22), (6, 23), (6, 3), (6, 5), (6, 6), (7, 0), (7, 1), (7, 2), (7, 3), (7, 4), (7, 5), (7, 6), (7, 7), (7, 8), (7, 9), (14, 18), (14, 19), (14, 20), (14, 21), (14, 22), (14, 23), (15, 0), (15, 1), (6, 9), (15, 2), (15, 3), (15, 4), (15, 5), (15, 6), (15, 7), (15, 8), (15, 9), (15, 10), (15, 11), (15, 12), (15, 13), (15, 14), (15, 15), (27, 0), (27, 1), (27, 2), (27, 3), (27, 4), (27, 5), (27, 6), (27, 7), (27, 8), (27, 9), (27, 10), (27, 11), (27, 12), (27, 13), (27, 14), (27, 15), (27, 16), (27, 17), (27, 18)] rfl (by decide +kernel)
set_option maxRecDepth 20000 in
theorem gL_law_X7_find : GoodIn wsL_law (wsV RL 83 RX7 yX7_find wsX7_find) := goodIn_app (goodIn_c _ [(17, 9), (17, 10), (17, 11), (0, 5)] rfl (by decide +kernel)) ggL_law_X7_find
set_option maxRecDepth 20000 in
set_option maxHeartbeats 4000000 in
theorem ggL_law_X6_print : GoodIn wsL_law wsX6_print := goodIn_c _ [(17, 16), (1, 2), (0, 17), (17, 17), (17, 18), (17, 19), (1, 1), (17, 20), (2, 15), (17, 21), (17, 22), (17, 23), (2, 14), (18, 0), (18, 1), (18, 2), (9, 12), (9, 13), (0, 16), (9, 14), (1, 13), (4, 21), (0, 2), (4, 22), (18, 3), (18, 4), (18, 5), (18, 6), (9, 20), (9, 21), (18, 7), (18, 8), (18, 9), (18, 10), (2, 20), (18, 11), (9, 23), (10, 0), (10, 1), (1, 15), (18, 12), (18, 13), (18, 14), (18, 15), (18, 16), (10, 3), (10, 4), (10, 5), (1, 16), (18, 17), (10, 7), (10, 8), (10, 9), (1, 17), (18, 18), (18, 19), (18, 20), (18, 21), (26, 0), (26, 1), (26, 2), (26, 3), (26, 4), (30, 0), (33, 0), (33, 1), (28, 0), (28, 1), (28, 2), (28, 3), (28, 4), (28, 5), (28, 6), (28, 7)] rfl (by decide +kernel)
set_option maxRecDepth 20000 in
theorem gL_law_X6_print : GoodIn wsL_law (wsV RL 84 RX6 yX6_print wsX6_print) := goodIn_app (goodIn_c _ [(17, 13), (17, 14), (17, 15), (0, 2)] rfl (by decide +kernel)) ggL_law_X6_print
set_option maxRecDepth 20000 in
set_option maxHeartbeats 4000000 in
theorem ggL_law_X7_print : GoodIn wsL_law wsX7_print := goodIn_c _ [(19, 1), (8, 15), (19, 2), (6, 4), (6, 3), (6, 5), (6, 6), (6, 7), (19, 3), (19, 4), (19, 5), (0, 5), (19, 6), (19, 7), (19, 8), (19, 9), (19, 10), (6, 10), (27, 0), (27, 1), (27, 2), (27, 3), (27, 4), (27, 5), (27, 6), (27, 7), (27, 8), (27, 9), (27, 10), (27, 11), (27, 12), (27, 13), (27, 14), (27, 15), (27, 16), (27, 17), (27, 18)] rfl (by decide +kernel)
set_option maxRecDepth 20000 in
theorem gL_law_X7_print : GoodIn wsL_law (wsV RL 88 RX7 yX7_print wsX7_print) := goodIn_app (goodIn_c _ [(18, 22), (18, 23), (19, 0), (0, 5)] rfl (by decide +kernel)) ggL_law_X7_print
set_option maxRecDepth 20000 in
set_option maxHeartbeats 4000000 in
theorem ggL_law_L_at : GoodIn wsL_law wsL_at := goodIn_ca (goodIn_c _ [(19, 13), (7, 14), (19, 14), (19, 15), (19, 16), (0, 2), (19, 17), (7, 19), (7, 20), (1, 2), (19, 18), (19, 19), (19, 20), (2, 14), (19, 21), (18, 1), (2, 20), (26, 0), (26, 1), (26, 2), (26, 3), (26, 4), (30, 0), (33, 0), (33, 1)] rfl (by decide +kernel)) (goodIn_sub (fun _ h => List.mem_append_left _ (List.mem_append_left _ (List.mem_append_left _ (List.mem_append_right _ h)))) (by decide +kernel))
set_option maxRecDepth 20000 in
theorem gL_law_L_at : GoodIn wsL_law (va_wsS RL 89 yL_at wsL_at) := goodIn_app (goodIn_c _ [(19, 11), (19, 12), (7, 12)] rfl (by decide +kernel)) ggL_law_L_at
set_option maxRecDepth 20000 in
set_option maxHeartbeats 4000000 in
theorem ggL_law_X7_at : GoodIn wsL_law wsX7_at := goodIn_c _ [(20, 1), (19, 2), (6, 10), (8, 11), (8, 12), (8, 13), (0, 5), (8, 14), (8, 15), (27, 0), (27, 1), (27, 2), (27, 3), (27, 4), (27, 5), (27, 6), (27, 7), (27, 8), (27, 9), (27, 10), (27, 11), (27, 12), (27, 13), (27, 14), (27, 15), (27, 16), (27, 17), (27, 18)] rfl (by decide +kernel)
set_option maxRecDepth 20000 in
theorem gL_law_X7_at : GoodIn wsL_law (wsV RL 91 RX7 yX7_at wsX7_at) := goodIn_app (goodIn_c _ [(19, 22), (19, 23), (20, 0), (0, 5)] rfl (by decide +kernel)) ggL_law_X7_at
set_option maxRecDepth 20000 in
set_option maxHeartbeats 4000000 in
theorem ggL_law_L_sign : GoodIn wsL_law wsL_sign := goodIn_ca (goodIn_ca (goodIn_c _ [(20, 4), (7, 14), (20, 5), (20, 6), (20, 7), (20, 8), (0, 2), (20, 9), (7, 19), (7, 20), (20, 10), (20, 11), (1, 6), (18, 18), (18, 19), (18, 20), (2, 14), (18, 21), (18, 1), (20, 12), (18, 8), (18, 9), (18, 10), (2, 20), (26, 0), (26, 1), (26, 2), (26, 3), (26, 4), (31, 0), (31, 1), (31, 2), (31, 3), (31, 4), (31, 5), (33, 0), (33, 1)] rfl (by decide +kernel)) (goodIn_sub (fun _ h => List.mem_append_left _ (List.mem_append_left _ (List.mem_append_left _ (List.mem_append_right _ h)))) (by decide +kernel))) (goodIn_sub (fun _ h => List.mem_append_right _ h) (by decide +kernel))
set_option maxRecDepth 20000 in
theorem gL_law_L_sign : GoodIn wsL_law (va_wsS RL 94 yL_sign wsL_sign) := goodIn_app (goodIn_c _ [(20, 2), (20, 3), (7, 12)] rfl (by decide +kernel)) ggL_law_L_sign
set_option maxRecDepth 20000 in
set_option maxHeartbeats 4000000 in
theorem ggL_law_X7_sign : GoodIn wsL_law wsX7_sign := goodIn_c _ [(20, 16), (20, 17), (6, 11), (8, 8), (8, 9), (0, 5), (8, 10), (8, 11), (8, 12), (8, 13), (8, 14), (8, 15), (27, 0), (27, 1), (27, 2), (27, 3), (27, 4), (27, 5), (27, 6), (27, 7), (27, 8), (27, 9), (27, 10), (27, 11), (27, 12), (27, 13), (27, 14), (27, 15), (27, 16), (27, 17), (27, 18)] rfl (by decide +kernel)
set_option maxRecDepth 20000 in
theorem gL_law_X7_sign : GoodIn wsL_law (wsV RL 97 RX7 yX7_sign wsX7_sign) := goodIn_app (goodIn_c _ [(20, 13), (20, 14), (20, 15), (0, 5)] rfl (by decide +kernel)) ggL_law_X7_sign
set_option maxRecDepth 20000 in
set_option maxHeartbeats 4000000 in
theorem ggL_law_X6_check : GoodIn wsL_law wsX6_check := goodIn_c _ [(20, 21), (1, 6), (20, 22), (20, 23), (21, 0), (1, 5), (21, 1), (21, 2), (21, 3), (21, 4), (3, 3), (3, 2), (21, 5), (18, 19), (18, 20), (2, 14), (18, 21), (18, 1), (21, 6), (21, 7), (21, 8), (21, 9), (21, 10), (19, 19), (19, 20), (19, 21), (2, 20), (21, 11), (21, 12), (21, 13), (21, 14), (21, 15), (21, 16), (21, 17), (21, 18), (21, 19), (21, 20), (21, 21), (21, 22), (21, 23), (22, 0), (22, 1), (22, 2), (22, 3), (22, 4), (22, 5), (22, 6), (22, 7), (22, 8), (22, 9), (22, 10), (22, 11), (22, 12), (22, 13), (22, 14), (22, 15), (22, 16), (22, 17), (22, 18), (22, 19), (22, 20), (22, 21), (17, 22), (17, 23), (18, 0), (26, 0), (26, 1), (26, 2), (26, 3), (26, 4), (31, 0), (31, 1), (31, 2), (31, 3), (31, 4), (31, 5), (33, 0), (33, 1)] rfl (by decide +kernel)
set_option maxRecDepth 20000 in
theorem gL_law_X6_check : GoodIn wsL_law (wsV RL 98 RX6 yX6_check wsX6_check) := goodIn_app (goodIn_c _ [(20, 18), (20, 19), (20, 20), (0, 2)] rfl (by decide +kernel)) ggL_law_X6_check
set_option maxRecDepth 20000 in
set_option maxHeartbeats 4000000 in
theorem ggL_law_X7_check : GoodIn wsL_law wsX7_check := goodIn_c _ [(23, 1), (8, 15), (20, 17), (23, 2), (23, 3), (23, 4), (23, 5), (23, 6), (23, 7), (0, 5), (23, 8), (6, 11), (23, 9), (23, 10), (23, 11), (23, 12), (23, 13), (23, 14), (23, 15), (23, 16), (23, 17), (23, 18), (23, 19), (23, 20), (8, 8), (8, 9), (8, 10), (23, 21), (23, 22), (23, 23), (24, 0), (24, 1), (24, 2), (24, 3), (24, 4), (24, 5), (24, 6), (24, 7), (24, 8), (27, 0), (27, 1), (27, 2), (27, 3), (27, 4), (27, 5), (27, 6), (27, 7), (27, 8), (27, 9), (27, 10), (27, 11), (27, 12), (27, 13), (27, 14), (27, 15), (27, 16), (27, 17), (27, 18)] rfl (by decide +kernel)
set_option maxRecDepth 20000 in
theorem gL_law_X7_check : GoodIn wsL_law (wsV RL 101 RX7 yX7_check wsX7_check) := goodIn_app (goodIn_c _ [(22, 22), (22, 23), (23, 0), (0, 5)] rfl (by decide +kernel)) ggL_law_X7_check
set_option maxRecDepth 20000 in
set_option maxHeartbeats 4000000 in
theorem ggL_law_L_count : GoodIn wsL_law wsL_count := goodIn_ca (goodIn_c _ [(24, 11), (9, 3), (24, 12), (24, 13), (24, 14), (0, 2), (24, 15), (9, 8), (9, 9), (0, 17), (0, 22), (24, 16), (5, 4), (5, 5), (0, 16), (5, 6), (3, 10), (24, 17), (13, 3), (13, 4), (13, 5), (13, 6), (9, 12), (9, 13), (9, 14), (1, 13), (4, 21), (4, 22), (24, 18), (12, 3), (12, 4), (0, 21), (12, 5), (2, 1), (12, 6), (12, 7), (12, 8), (2, 0), (12, 9), (2, 7), (12, 10), (9, 23), (10, 0), (10, 1), (1, 15), (12, 11), (12, 12), (12, 13), (12, 14), (10, 3), (10, 4), (10, 5), (1, 16), (12, 15), (12, 16), (12, 17), (12, 18), (12, 19), (12, 20), (12, 21), (12, 22), (12, 23), (13, 0), (13, 1), (24, 19), (24, 20), (24, 21), (24, 22), (24, 23), (25, 0), (25, 1), (13, 13), (10, 7), (10, 8), (10, 9), (1, 17), (26, 0), (26, 1), (26, 2), (26, 3), (26, 4), (28, 0), (28, 1), (28, 2), (28, 3), (28, 4), (28, 5), (28, 6), (28, 7), (29, 0), (32, 0), (32, 1)] rfl (by decide +kernel)) (goodIn_sub (fun _ h => List.mem_append_left _ (List.mem_append_left _ (List.mem_append_right _ h))) (by decide +kernel))
set_option maxRecDepth 20000 in
theorem gL_law_L_count : GoodIn wsL_law (va_wsS RL 102 yL_count wsL_count) := goodIn_app (goodIn_c _ [(24, 9), (24, 10), (7, 12)] rfl (by decide +kernel)) ggL_law_L_count
set_option maxRecDepth 20000 in
set_option maxHeartbeats 4000000 in
theorem ggL_law_X7_count : GoodIn wsL_law wsX7_count := goodIn_c _ [(25, 5), (6, 17), (6, 4), (6, 7), (8, 8), (8, 9), (0, 5), (8, 10), (8, 11), (8, 12), (8, 13), (8, 14), (8, 15), (8, 20), (8, 21), (8, 22), (8, 23), (6, 3), (14, 22), (14, 23), (15, 0), (15, 1), (6, 5), (6, 6), (6, 9), (15, 2), (15, 3), (15, 4), (15, 5), (15, 6), (27, 0), (27, 1), (27, 2), (27, 3), (27, 4), (27, 5), (27, 6), (27, 7), (27, 8), (27, 9), (27, 10), (27, 11), (27, 12), (27, 13), (27, 14), (27, 15), (27, 16), (27, 17), (27, 18)] rfl (by decide +kernel)
set_option maxRecDepth 20000 in
theorem gL_law_X7_count : GoodIn wsL_law (wsV RL 104 RX7 yX7_count wsX7_count) := goodIn_app (goodIn_c _ [(25, 2), (25, 3), (25, 4), (0, 5)] rfl (by decide +kernel)) ggL_law_X7_count
set_option maxRecDepth 20000 in
theorem zdL_law_0 : dAll cL_law [(0, .new 8, 3), (3, .dup, 1), (4, .invokespecial 53, 3), (7, .astore_n 1, 1), (8, .new 54, 3), (11, .dup, 1), (12, .invokespecial 56, 3), (15, .astore_n 2, 1), (16, .iconst 1, 1), (17, .newarray .long, 2), (19, .astore_n 3, 1), (20, .iconst 0, 1), (21, .istore 4, 2), (23, .iload 4, 2), (25, .aload_n 0, 1), (26, .arraylength, 1), (27, .iconst 5, 1), (28, .isub, 1), (29, .if_icmp .gt 524, 3), (32, .aload_n 0, 1), (33, .iload 4, 2), (35, .iaload, 1), (36, .bipush 15, 2), (38, .iand, 1), (39, .tableswitch 508 0 11 #[61, 101, 141, 194, 222, 262, 290, 354, 367, 395, 467, 480], 61), (100, .aload_n 1, 1), (101, .aload_n 0, 1), (102, .iload 4, 2), (104, .iconst 1, 1), (105, .iadd, 1)] := dAll_of (by decide +kernel)
theorem dL_law_0 : decode cL_law 0 = .ok (.new 8, 3) := zdL_law_0.1
theorem dL_law_3 : decode cL_law 3 = .ok (.dup, 1) := zdL_law_0.2.1
theorem dL_law_4 : decode cL_law 4 = .ok (.invokespecial 53, 3) := zdL_law_0.2.2.1
theorem dL_law_7 : decode cL_law 7 = .ok (.astore_n 1, 1) := zdL_law_0.2.2.2.1
theorem dL_law_8 : decode cL_law 8 = .ok (.new 54, 3) := zdL_law_0.2.2.2.2.1
theorem dL_law_11 : decode cL_law 11 = .ok (.dup, 1) := zdL_law_0.2.2.2.2.2.1
theorem dL_law_12 : decode cL_law 12 = .ok (.invokespecial 56, 3) := zdL_law_0.2.2.2.2.2.2.1
theorem dL_law_15 : decode cL_law 15 = .ok (.astore_n 2, 1) := zdL_law_0.2.2.2.2.2.2.2.1
theorem dL_law_16 : decode cL_law 16 = .ok (.iconst 1, 1) := zdL_law_0.2.2.2.2.2.2.2.2.1
theorem dL_law_17 : decode cL_law 17 = .ok (.newarray .long, 2) := zdL_law_0.2.2.2.2.2.2.2.2.2.1
theorem dL_law_19 : decode cL_law 19 = .ok (.astore_n 3, 1) := zdL_law_0.2.2.2.2.2.2.2.2.2.2.1
theorem dL_law_20 : decode cL_law 20 = .ok (.iconst 0, 1) := zdL_law_0.2.2.2.2.2.2.2.2.2.2.2.1
theorem dL_law_21 : decode cL_law 21 = .ok (.istore 4, 2) := zdL_law_0.2.2.2.2.2.2.2.2.2.2.2.2.1
theorem dL_law_23 : decode cL_law 23 = .ok (.iload 4, 2) := zdL_law_0.2.2.2.2.2.2.2.2.2.2.2.2.2.1
theorem dL_law_25 : decode cL_law 25 = .ok (.aload_n 0, 1) := zdL_law_0.2.2.2.2.2.2.2.2.2.2.2.2.2.2.1
theorem dL_law_26 : decode cL_law 26 = .ok (.arraylength, 1) := zdL_law_0.2.2.2.2.2.2.2.2.2.2.2.2.2.2.2.1
theorem dL_law_27 : decode cL_law 27 = .ok (.iconst 5, 1) := zdL_law_0.2.2.2.2.2.2.2.2.2.2.2.2.2.2.2.2.1
theorem dL_law_28 : decode cL_law 28 = .ok (.isub, 1) := zdL_law_0.2.2.2.2.2.2.2.2.2.2.2.2.2.2.2.2.2.1
theorem dL_law_29 : decode cL_law 29 = .ok (.if_icmp .gt 524, 3) := zdL_law_0.2.2.2.2.2.2.2.2.2.2.2.2.2.2.2.2.2.2.1
theorem dL_law_32 : decode cL_law 32 = .ok (.aload_n 0, 1) := zdL_law_0.2.2.2.2.2.2.2.2.2.2.2.2.2.2.2.2.2.2.2.1
theorem dL_law_33 : decode cL_law 33 = .ok (.iload 4, 2) := zdL_law_0.2.2.2.2.2.2.2.2.2.2.2.2.2.2.2.2.2.2.2.2.1
theorem dL_law_35 : decode cL_law 35 = .ok (.iaload, 1) := zdL_law_0.2.2.2.2.2.2.2.2.2.2.2.2.2.2.2.2.2.2.2.2.2.1
theorem dL_law_36 : decode cL_law 36 = .ok (.bipush 15, 2) := zdL_law_0.2.2.2.2.2.2.2.2.2.2.2.2.2.2.2.2.2.2.2.2.2.2.1
theorem dL_law_38 : decode cL_law 38 = .ok (.iand, 1) := zdL_law_0.2.2.2.2.2.2.2.2.2.2.2.2.2.2.2.2.2.2.2.2.2.2.2.1
theorem dL_law_39 : decode cL_law 39 = .ok (.tableswitch 508 0 11 #[61, 101, 141, 194, 222, 262, 290, 354, 367, 395, 467, 480], 61) := zdL_law_0.2.2.2.2.2.2.2.2.2.2.2.2.2.2.2.2.2.2.2.2.2.2.2.2.1
theorem dL_law_100 : decode cL_law 100 = .ok (.aload_n 1, 1) := zdL_law_0.2.2.2.2.2.2.2.2.2.2.2.2.2.2.2.2.2.2.2.2.2.2.2.2.2.1
theorem dL_law_101 : decode cL_law 101 = .ok (.aload_n 0, 1) := zdL_law_0.2.2.2.2.2.2.2.2.2.2.2.2.2.2.2.2.2.2.2.2.2.2.2.2.2.2.1
theorem dL_law_102 : decode cL_law 102 = .ok (.iload 4, 2) := zdL_law_0.2.2.2.2.2.2.2.2.2.2.2.2.2.2.2.2.2.2.2.2.2.2.2.2.2.2.2.1
theorem dL_law_104 : decode cL_law 104 = .ok (.iconst 1, 1) := zdL_law_0.2.2.2.2.2.2.2.2.2.2.2.2.2.2.2.2.2.2.2.2.2.2.2.2.2.2.2.2.1
theorem dL_law_105 : decode cL_law 105 = .ok (.iadd, 1) := zdL_law_0.2.2.2.2.2.2.2.2.2.2.2.2.2.2.2.2.2.2.2.2.2.2.2.2.2.2.2.2.2.1
set_option maxRecDepth 20000 in
theorem zdL_law_106 : dAll cL_law [(106, .iaload, 1), (107, .aload_n 0, 1), (108, .iload 4, 2), (110, .iconst 2, 1), (111, .iadd, 1), (112, .iaload, 1), (113, .aload_n 3, 1), (114, .invokestatic 57, 3), (117, .istore 5, 2), (119, .aload_n 2, 1), (120, .aload_n 0, 1), (121, .iload 4, 2), (123, .iconst 1, 1), (124, .iadd, 1), (125, .iaload, 1), (126, .aload_n 0, 1), (127, .iload 4, 2), (129, .iconst 2, 1), (130, .iadd, 1), (131, .iaload, 1), (132, .invokevirtual 62, 3), (135, .istore 6, 2), (137, .goto 410, 3), (140, .aload_n 1, 1), (141, .aload_n 0, 1), (142, .iload 4, 2), (144, .iconst 1, 1), (145, .iadd, 1), (146, .iaload, 1), (147, .aload_n 0, 1)] := dAll_of (by decide +kernel)
theorem dL_law_106 : decode cL_law 106 = .ok (.iaload, 1) := zdL_law_106.1
theorem dL_law_107 : decode cL_law 107 = .ok (.aload_n 0, 1) := zdL_law_106.2.1
theorem dL_law_108 : decode cL_law 108 = .ok (.iload 4, 2) := zdL_law_106.2.2.1
theorem dL_law_110 : decode cL_law 110 = .ok (.iconst 2, 1) := zdL_law_106.2.2.2.1
theorem dL_law_111 : decode cL_law 111 = .ok (.iadd, 1) := zdL_law_106.2.2.2.2.1
theorem dL_law_112 : decode cL_law 112 = .ok (.iaload, 1) := zdL_law_106.2.2.2.2.2.1
theorem dL_law_113 : decode cL_law 113 = .ok (.aload_n 3, 1) := zdL_law_106.2.2.2.2.2.2.1
theorem dL_law_114 : decode cL_law 114 = .ok (.invokestatic 57, 3) := zdL_law_106.2.2.2.2.2.2.2.1
theorem dL_law_117 : decode cL_law 117 = .ok (.istore 5, 2) := zdL_law_106.2.2.2.2.2.2.2.2.1
theorem dL_law_119 : decode cL_law 119 = .ok (.aload_n 2, 1) := zdL_law_106.2.2.2.2.2.2.2.2.2.1
theorem dL_law_120 : decode cL_law 120 = .ok (.aload_n 0, 1) := zdL_law_106.2.2.2.2.2.2.2.2.2.2.1
theorem dL_law_121 : decode cL_law 121 = .ok (.iload 4, 2) := zdL_law_106.2.2.2.2.2.2.2.2.2.2.2.1
theorem dL_law_123 : decode cL_law 123 = .ok (.iconst 1, 1) := zdL_law_106.2.2.2.2.2.2.2.2.2.2.2.2.1
theorem dL_law_124 : decode cL_law 124 = .ok (.iadd, 1) := zdL_law_106.2.2.2.2.2.2.2.2.2.2.2.2.2.1
theorem dL_law_125 : decode cL_law 125 = .ok (.iaload, 1) := zdL_law_106.2.2.2.2.2.2.2.2.2.2.2.2.2.2.1
theorem dL_law_126 : decode cL_law 126 = .ok (.aload_n 0, 1) := zdL_law_106.2.2.2.2.2.2.2.2.2.2.2.2.2.2.2.1
theorem dL_law_127 : decode cL_law 127 = .ok (.iload 4, 2) := zdL_law_106.2.2.2.2.2.2.2.2.2.2.2.2.2.2.2.2.1
theorem dL_law_129 : decode cL_law 129 = .ok (.iconst 2, 1) := zdL_law_106.2.2.2.2.2.2.2.2.2.2.2.2.2.2.2.2.2.1
theorem dL_law_130 : decode cL_law 130 = .ok (.iadd, 1) := zdL_law_106.2.2.2.2.2.2.2.2.2.2.2.2.2.2.2.2.2.2.1
theorem dL_law_131 : decode cL_law 131 = .ok (.iaload, 1) := zdL_law_106.2.2.2.2.2.2.2.2.2.2.2.2.2.2.2.2.2.2.2.1
theorem dL_law_132 : decode cL_law 132 = .ok (.invokevirtual 62, 3) := zdL_law_106.2.2.2.2.2.2.2.2.2.2.2.2.2.2.2.2.2.2.2.2.1
theorem dL_law_135 : decode cL_law 135 = .ok (.istore 6, 2) := zdL_law_106.2.2.2.2.2.2.2.2.2.2.2.2.2.2.2.2.2.2.2.2.2.1
theorem dL_law_137 : decode cL_law 137 = .ok (.goto 410, 3) := zdL_law_106.2.2.2.2.2.2.2.2.2.2.2.2.2.2.2.2.2.2.2.2.2.2.1
theorem dL_law_140 : decode cL_law 140 = .ok (.aload_n 1, 1) := zdL_law_106.2.2.2.2.2.2.2.2.2.2.2.2.2.2.2.2.2.2.2.2.2.2.2.1
theorem dL_law_141 : decode cL_law 141 = .ok (.aload_n 0, 1) := zdL_law_106.2.2.2.2.2.2.2.2.2.2.2.2.2.2.2.2.2.2.2.2.2.2.2.2.1
theorem dL_law_142 : decode cL_law 142 = .ok (.iload 4, 2) := zdL_law_106.2.2.2.2.2.2.2.2.2.2.2.2.2.2.2.2.2.2.2.2.2.2.2.2.2.1
theorem dL_law_144 : decode cL_law 144 = .ok (.iconst 1, 1) := zdL_law_106.2.2.2.2.2.2.2.2.2.2.2.2.2.2.2.2.2.2.2.2.2.2.2.2.2.2.1
theorem dL_law_145 : decode cL_law 145 = .ok (.iadd, 1) := zdL_law_106.2.2.2.2.2.2.2.2.2.2.2.2.2.2.2.2.2.2.2.2.2.2.2.2.2.2.2.1
theorem dL_law_146 : decode cL_law 146 = .ok (.iaload, 1) := zdL_law_106.2.2.2.2.2.2.2.2.2.2.2.2.2.2.2.2.2.2.2.2.2.2.2.2.2.2.2.2.1
theorem dL_law_147 : decode cL_law 147 = .ok (.aload_n 0, 1) := zdL_law_106.2.2.2.2.2.2.2.2.2.2.2.2.2.2.2.2.2.2.2.2.2.2.2.2.2.2.2.2.2.1
set_option maxRecDepth 20000 in
theorem zdL_law_148 : dAll cL_law [(148, .iload 4, 2), (150, .iconst 2, 1), (151, .iadd, 1), (152, .iaload, 1), (153, .aload_n 3, 1), (154, .invokestatic 63, 3), (157, .istore 5, 2), (159, .aload_n 2, 1), (160, .aload_n 0, 1), (161, .iload 4, 2), (163, .iconst 1, 1), (164, .iadd, 1), (165, .iaload, 1), (166, .aload_n 0, 1), (167, .iload 4, 2), (169, .iconst 2, 1), (170, .iadd, 1), (171, .iaload, 1), (172, .invokevirtual 65, 3), (175, .istore 6, 2), (177, .goto 370, 3), (180, .aload_n 1, 1), (181, .aload_n 0, 1), (182, .iload 4, 2), (184, .iconst 1, 1), (185, .iadd, 1), (186, .iaload, 1), (187, .aload_n 0, 1), (188, .iload 4, 2), (190, .iconst 2, 1)] := dAll_of (by decide +kernel)
theorem dL_law_148 : decode cL_law 148 = .ok (.iload 4, 2) := zdL_law_148.1
theorem dL_law_150 : decode cL_law 150 = .ok (.iconst 2, 1) := zdL_law_148.2.1
theorem dL_law_151 : decode cL_law 151 = .ok (.iadd, 1) := zdL_law_148.2.2.1
theorem dL_law_152 : decode cL_law 152 = .ok (.iaload, 1) := zdL_law_148.2.2.2.1
theorem dL_law_153 : decode cL_law 153 = .ok (.aload_n 3, 1) := zdL_law_148.2.2.2.2.1
theorem dL_law_154 : decode cL_law 154 = .ok (.invokestatic 63, 3) := zdL_law_148.2.2.2.2.2.1
theorem dL_law_157 : decode cL_law 157 = .ok (.istore 5, 2) := zdL_law_148.2.2.2.2.2.2.1
theorem dL_law_159 : decode cL_law 159 = .ok (.aload_n 2, 1) := zdL_law_148.2.2.2.2.2.2.2.1
theorem dL_law_160 : decode cL_law 160 = .ok (.aload_n 0, 1) := zdL_law_148.2.2.2.2.2.2.2.2.1
theorem dL_law_161 : decode cL_law 161 = .ok (.iload 4, 2) := zdL_law_148.2.2.2.2.2.2.2.2.2.1
theorem dL_law_163 : decode cL_law 163 = .ok (.iconst 1, 1) := zdL_law_148.2.2.2.2.2.2.2.2.2.2.1
theorem dL_law_164 : decode cL_law 164 = .ok (.iadd, 1) := zdL_law_148.2.2.2.2.2.2.2.2.2.2.2.1
theorem dL_law_165 : decode cL_law 165 = .ok (.iaload, 1) := zdL_law_148.2.2.2.2.2.2.2.2.2.2.2.2.1
theorem dL_law_166 : decode cL_law 166 = .ok (.aload_n 0, 1) := zdL_law_148.2.2.2.2.2.2.2.2.2.2.2.2.2.1
theorem dL_law_167 : decode cL_law 167 = .ok (.iload 4, 2) := zdL_law_148.2.2.2.2.2.2.2.2.2.2.2.2.2.2.1
theorem dL_law_169 : decode cL_law 169 = .ok (.iconst 2, 1) := zdL_law_148.2.2.2.2.2.2.2.2.2.2.2.2.2.2.2.1
theorem dL_law_170 : decode cL_law 170 = .ok (.iadd, 1) := zdL_law_148.2.2.2.2.2.2.2.2.2.2.2.2.2.2.2.2.1
theorem dL_law_171 : decode cL_law 171 = .ok (.iaload, 1) := zdL_law_148.2.2.2.2.2.2.2.2.2.2.2.2.2.2.2.2.2.1
theorem dL_law_172 : decode cL_law 172 = .ok (.invokevirtual 65, 3) := zdL_law_148.2.2.2.2.2.2.2.2.2.2.2.2.2.2.2.2.2.2.1
theorem dL_law_175 : decode cL_law 175 = .ok (.istore 6, 2) := zdL_law_148.2.2.2.2.2.2.2.2.2.2.2.2.2.2.2.2.2.2.2.1
theorem dL_law_177 : decode cL_law 177 = .ok (.goto 370, 3) := zdL_law_148.2.2.2.2.2.2.2.2.2.2.2.2.2.2.2.2.2.2.2.2.1
theorem dL_law_180 : decode cL_law 180 = .ok (.aload_n 1, 1) := zdL_law_148.2.2.2.2.2.2.2.2.2.2.2.2.2.2.2.2.2.2.2.2.2.1
theorem dL_law_181 : decode cL_law 181 = .ok (.aload_n 0, 1) := zdL_law_148.2.2.2.2.2.2.2.2.2.2.2.2.2.2.2.2.2.2.2.2.2.2.1
theorem dL_law_182 : decode cL_law 182 = .ok (.iload 4, 2) := zdL_law_148.2.2.2.2.2.2.2.2.2.2.2.2.2.2.2.2.2.2.2.2.2.2.2.1
theorem dL_law_184 : decode cL_law 184 = .ok (.iconst 1, 1) := zdL_law_148.2.2.2.2.2.2.2.2.2.2.2.2.2.2.2.2.2.2.2.2.2.2.2.2.1
theorem dL_law_185 : decode cL_law 185 = .ok (.iadd, 1) := zdL_law_148.2.2.2.2.2.2.2.2.2.2.2.2.2.2.2.2.2.2.2.2.2.2.2.2.2.1
theorem dL_law_186 : decode cL_law 186 = .ok (.iaload, 1) := zdL_law_148.2.2.2.2.2.2.2.2.2.2.2.2.2.2.2.2.2.2.2.2.2.2.2.2.2.2.1
theorem dL_law_187 : decode cL_law 187 = .ok (.aload_n 0, 1) := zdL_law_148.2.2.2.2.2.2.2.2.2.2.2.2.2.2.2.2.2.2.2.2.2.2.2.2.2.2.2.1
theorem dL_law_188 : decode cL_law 188 = .ok (.iload 4, 2) := zdL_law_148.2.2.2.2.2.2.2.2.2.2.2.2.2.2.2.2.2.2.2.2.2.2.2.2.2.2.2.2.1
theorem dL_law_190 : decode cL_law 190 = .ok (.iconst 2, 1) := zdL_law_148.2.2.2.2.2.2.2.2.2.2.2.2.2.2.2.2.2.2.2.2.2.2.2.2.2.2.2.2.2.1
set_option maxRecDepth 20000 in
theorem zdL_law_191 : dAll cL_law [(191, .iadd, 1), (192, .iaload, 1), (193, .ifCond .eq 7, 3), (196, .iconst 1, 1), (197, .goto 4, 3), (200, .iconst 0, 1), (201, .invokestatic 66, 3), (204, .istore 5, 2), (206, .aload_n 2, 1), (207, .aload_n 0, 1), (208, .iload 4, 2), (210, .iconst 1, 1), (211, .iadd, 1), (212, .iaload, 1), (213, .aload_n 0, 1), (214, .iload 4, 2), (216, .iconst 2, 1), (217, .iadd, 1), (218, .iaload, 1), (219, .ifCond .eq 7, 3), (222, .iconst 1, 1), (223, .goto 4, 3), (226, .iconst 0, 1), (227, .invokevirtual 69, 3), (230, .goto 317, 3), (233, .aload_n 1, 1), (234, .aload_n 0, 1), (235, .iload 4, 2), (237, .iconst 1, 1), (238, .iadd, 1)] := dAll_of (by decide +kernel)
theorem dL_law_191 : decode cL_law 191 = .ok (.iadd, 1) := zdL_law_191.1
theorem dL_law_192 : decode cL_law 192 = .ok (.iaload, 1) := zdL_law_191.2.1
theorem dL_law_193 : decode cL_law 193 = .ok (.ifCond .eq 7, 3) := zdL_law_191.2.2.1
theorem dL_law_196 : decode cL_law 196 = .ok (.iconst 1, 1) := zdL_law_191.2.2.2.1
theorem dL_law_197 : decode cL_law 197 = .ok (.goto 4, 3) := zdL_law_191.2.2.2.2.1
theorem dL_law_200 : decode cL_law 200 = .ok (.iconst 0, 1) := zdL_law_191.2.2.2.2.2.1
theorem dL_law_201 : decode cL_law 201 = .ok (.invokestatic 66, 3) := zdL_law_191.2.2.2.2.2.2.1
theorem dL_law_204 : decode cL_law 204 = .ok (.istore 5, 2) := zdL_law_191.2.2.2.2.2.2.2.1
theorem dL_law_206 : decode cL_law 206 = .ok (.aload_n 2, 1) := zdL_law_191.2.2.2.2.2.2.2.2.1
theorem dL_law_207 : decode cL_law 207 = .ok (.aload_n 0, 1) := zdL_law_191.2.2.2.2.2.2.2.2.2.1
theorem dL_law_208 : decode cL_law 208 = .ok (.iload 4, 2) := zdL_law_191.2.2.2.2.2.2.2.2.2.2.1
theorem dL_law_210 : decode cL_law 210 = .ok (.iconst 1, 1) := zdL_law_191.2.2.2.2.2.2.2.2.2.2.2.1
theorem dL_law_211 : decode cL_law 211 = .ok (.iadd, 1) := zdL_law_191.2.2.2.2.2.2.2.2.2.2.2.2.1
theorem dL_law_212 : decode cL_law 212 = .ok (.iaload, 1) := zdL_law_191.2.2.2.2.2.2.2.2.2.2.2.2.2.1
theorem dL_law_213 : decode cL_law 213 = .ok (.aload_n 0, 1) := zdL_law_191.2.2.2.2.2.2.2.2.2.2.2.2.2.2.1
theorem dL_law_214 : decode cL_law 214 = .ok (.iload 4, 2) := zdL_law_191.2.2.2.2.2.2.2.2.2.2.2.2.2.2.2.1
theorem dL_law_216 : decode cL_law 216 = .ok (.iconst 2, 1) := zdL_law_191.2.2.2.2.2.2.2.2.2.2.2.2.2.2.2.2.1
theorem dL_law_217 : decode cL_law 217 = .ok (.iadd, 1) := zdL_law_191.2.2.2.2.2.2.2.2.2.2.2.2.2.2.2.2.2.1
theorem dL_law_218 : decode cL_law 218 = .ok (.iaload, 1) := zdL_law_191.2.2.2.2.2.2.2.2.2.2.2.2.2.2.2.2.2.2.1
theorem dL_law_219 : decode cL_law 219 = .ok (.ifCond .eq 7, 3) := zdL_law_191.2.2.2.2.2.2.2.2.2.2.2.2.2.2.2.2.2.2.2.1
theorem dL_law_222 : decode cL_law 222 = .ok (.iconst 1, 1) := zdL_law_191.2.2.2.2.2.2.2.2.2.2.2.2.2.2.2.2.2.2.2.2.1
theorem dL_law_223 : decode cL_law 223 = .ok (.goto 4, 3) := zdL_law_191.2.2.2.2.2.2.2.2.2.2.2.2.2.2.2.2.2.2.2.2.2.1
theorem dL_law_226 : decode cL_law 226 = .ok (.iconst 0, 1) := zdL_law_191.2.2.2.2.2.2.2.2.2.2.2.2.2.2.2.2.2.2.2.2.2.2.1
theorem dL_law_227 : decode cL_law 227 = .ok (.invokevirtual 69, 3) := zdL_law_191.2.2.2.2.2.2.2.2.2.2.2.2.2.2.2.2.2.2.2.2.2.2.2.1
theorem dL_law_230 : decode cL_law 230 = .ok (.goto 317, 3) := zdL_law_191.2.2.2.2.2.2.2.2.2.2.2.2.2.2.2.2.2.2.2.2.2.2.2.2.1
theorem dL_law_233 : decode cL_law 233 = .ok (.aload_n 1, 1) := zdL_law_191.2.2.2.2.2.2.2.2.2.2.2.2.2.2.2.2.2.2.2.2.2.2.2.2.2.1
theorem dL_law_234 : decode cL_law 234 = .ok (.aload_n 0, 1) := zdL_law_191.2.2.2.2.2.2.2.2.2.2.2.2.2.2.2.2.2.2.2.2.2.2.2.2.2.2.1
theorem dL_law_235 : decode cL_law 235 = .ok (.iload 4, 2) := zdL_law_191.2.2.2.2.2.2.2.2.2.2.2.2.2.2.2.2.2.2.2.2.2.2.2.2.2.2.2.1
theorem dL_law_237 : decode cL_law 237 = .ok (.iconst 1, 1) := zdL_law_191.2.2.2.2.2.2.2.2.2.2.2.2.2.2.2.2.2.2.2.2.2.2.2.2.2.2.2.2.1
theorem dL_law_238 : decode cL_law 238 = .ok (.iadd, 1) := zdL_law_191.2.2.2.2.2.2.2.2.2.2.2.2.2.2.2.2.2.2.2.2.2.2.2.2.2.2.2.2.2.1
set_option maxRecDepth 20000 in
theorem zdL_law_239 : dAll cL_law [(239, .iaload, 1), (240, .aload_n 3, 1), (241, .invokestatic 70, 3), (244, .istore 5, 2), (246, .aload_n 2, 1), (247, .aload_n 0, 1), (248, .iload 4, 2), (250, .iconst 1, 1), (251, .iadd, 1), (252, .iaload, 1), (253, .invokevirtual 73, 3), (256, .istore 6, 2), (258, .goto 289, 3), (261, .aload_n 1, 1), (262, .aload_n 0, 1), (263, .iload 4, 2), (265, .iconst 1, 1), (266, .iadd, 1), (267, .iaload, 1), (268, .aload_n 0, 1), (269, .iload 4, 2), (271, .iconst 2, 1), (272, .iadd, 1), (273, .iaload, 1), (274, .aload_n 3, 1), (275, .invokestatic 74, 3), (278, .istore 5, 2), (280, .aload_n 2, 1), (281, .aload_n 0, 1), (282, .iload 4, 2)] := dAll_of (by decide +kernel)
theorem dL_law_239 : decode cL_law 239 = .ok (.iaload, 1) := zdL_law_239.1
theorem dL_law_240 : decode cL_law 240 = .ok (.aload_n 3, 1) := zdL_law_239.2.1
theorem dL_law_241 : decode cL_law 241 = .ok (.invokestatic 70, 3) := zdL_law_239.2.2.1
theorem dL_law_244 : decode cL_law 244 = .ok (.istore 5, 2) := zdL_law_239.2.2.2.1
theorem dL_law_246 : decode cL_law 246 = .ok (.aload_n 2, 1) := zdL_law_239.2.2.2.2.1
theorem dL_law_247 : decode cL_law 247 = .ok (.aload_n 0, 1) := zdL_law_239.2.2.2.2.2.1
theorem dL_law_248 : decode cL_law 248 = .ok (.iload 4, 2) := zdL_law_239.2.2.2.2.2.2.1
theorem dL_law_250 : decode cL_law 250 = .ok (.iconst 1, 1) := zdL_law_239.2.2.2.2.2.2.2.1
theorem dL_law_251 : decode cL_law 251 = .ok (.iadd, 1) := zdL_law_239.2.2.2.2.2.2.2.2.1
theorem dL_law_252 : decode cL_law 252 = .ok (.iaload, 1) := zdL_law_239.2.2.2.2.2.2.2.2.2.1
theorem dL_law_253 : decode cL_law 253 = .ok (.invokevirtual 73, 3) := zdL_law_239.2.2.2.2.2.2.2.2.2.2.1
theorem dL_law_256 : decode cL_law 256 = .ok (.istore 6, 2) := zdL_law_239.2.2.2.2.2.2.2.2.2.2.2.1
theorem dL_law_258 : decode cL_law 258 = .ok (.goto 289, 3) := zdL_law_239.2.2.2.2.2.2.2.2.2.2.2.2.1
theorem dL_law_261 : decode cL_law 261 = .ok (.aload_n 1, 1) := zdL_law_239.2.2.2.2.2.2.2.2.2.2.2.2.2.1
theorem dL_law_262 : decode cL_law 262 = .ok (.aload_n 0, 1) := zdL_law_239.2.2.2.2.2.2.2.2.2.2.2.2.2.2.1
theorem dL_law_263 : decode cL_law 263 = .ok (.iload 4, 2) := zdL_law_239.2.2.2.2.2.2.2.2.2.2.2.2.2.2.2.1
theorem dL_law_265 : decode cL_law 265 = .ok (.iconst 1, 1) := zdL_law_239.2.2.2.2.2.2.2.2.2.2.2.2.2.2.2.2.1
theorem dL_law_266 : decode cL_law 266 = .ok (.iadd, 1) := zdL_law_239.2.2.2.2.2.2.2.2.2.2.2.2.2.2.2.2.2.1
theorem dL_law_267 : decode cL_law 267 = .ok (.iaload, 1) := zdL_law_239.2.2.2.2.2.2.2.2.2.2.2.2.2.2.2.2.2.2.1
theorem dL_law_268 : decode cL_law 268 = .ok (.aload_n 0, 1) := zdL_law_239.2.2.2.2.2.2.2.2.2.2.2.2.2.2.2.2.2.2.2.1
theorem dL_law_269 : decode cL_law 269 = .ok (.iload 4, 2) := zdL_law_239.2.2.2.2.2.2.2.2.2.2.2.2.2.2.2.2.2.2.2.2.1
theorem dL_law_271 : decode cL_law 271 = .ok (.iconst 2, 1) := zdL_law_239.2.2.2.2.2.2.2.2.2.2.2.2.2.2.2.2.2.2.2.2.2.1
theorem dL_law_272 : decode cL_law 272 = .ok (.iadd, 1) := zdL_law_239.2.2.2.2.2.2.2.2.2.2.2.2.2.2.2.2.2.2.2.2.2.2.1
theorem dL_law_273 : decode cL_law 273 = .ok (.iaload, 1) := zdL_law_239.2.2.2.2.2.2.2.2.2.2.2.2.2.2.2.2.2.2.2.2.2.2.2.1
theorem dL_law_274 : decode cL_law 274 = .ok (.aload_n 3, 1) := zdL_law_239.2.2.2.2.2.2.2.2.2.2.2.2.2.2.2.2.2.2.2.2.2.2.2.2.1
theorem dL_law_275 : decode cL_law 275 = .ok (.invokestatic 74, 3) := zdL_law_239.2.2.2.2.2.2.2.2.2.2.2.2.2.2.2.2.2.2.2.2.2.2.2.2.2.1
theorem dL_law_278 : decode cL_law 278 = .ok (.istore 5, 2) := zdL_law_239.2.2.2.2.2.2.2.2.2.2.2.2.2.2.2.2.2.2.2.2.2.2.2.2.2.2.1
theorem dL_law_280 : decode cL_law 280 = .ok (.aload_n 2, 1) := zdL_law_239.2.2.2.2.2.2.2.2.2.2.2.2.2.2.2.2.2.2.2.2.2.2.2.2.2.2.2.1
theorem dL_law_281 : decode cL_law 281 = .ok (.aload_n 0, 1) := zdL_law_239.2.2.2.2.2.2.2.2.2.2.2.2.2.2.2.2.2.2.2.2.2.2.2.2.2.2.2.2.1
theorem dL_law_282 : decode cL_law 282 = .ok (.iload 4, 2) := zdL_law_239.2.2.2.2.2.2.2.2.2.2.2.2.2.2.2.2.2.2.2.2.2.2.2.2.2.2.2.2.2.1
set_option maxRecDepth 20000 in
theorem zdL_law_284 : dAll cL_law [(284, .iconst 1, 1), (285, .iadd, 1), (286, .iaload, 1), (287, .aload_n 0, 1), (288, .iload 4, 2), (290, .iconst 2, 1), (291, .iadd, 1), (292, .iaload, 1), (293, .invokevirtual 76, 3), (296, .istore 6, 2), (298, .goto 249, 3), (301, .aload_n 1, 1), (302, .aload_n 0, 1), (303, .iload 4, 2), (305, .iconst 1, 1), (306, .iadd, 1), (307, .iaload, 1), (308, .aload_n 3, 1), (309, .invokestatic 77, 3), (312, .istore 5, 2), (314, .aload_n 2, 1), (315, .aload_n 0, 1), (316, .iload 4, 2), (318, .iconst 1, 1), (319, .iadd, 1), (320, .iaload, 1), (321, .invokevirtual 79, 3), (324, .istore 6, 2), (326, .goto 221, 3), (329, .aload_n 1, 1)] := dAll_of (by decide +kernel)
theorem dL_law_284 : decode cL_law 284 = .ok (.iconst 1, 1) := zdL_law_284.1
theorem dL_law_285 : decode cL_law 285 = .ok (.iadd, 1) := zdL_law_284.2.1
theorem dL_law_286 : decode cL_law 286 = .ok (.iaload, 1) := zdL_law_284.2.2.1
theorem dL_law_287 : decode cL_law 287 = .ok (.aload_n 0, 1) := zdL_law_284.2.2.2.1
theorem dL_law_288 : decode cL_law 288 = .ok (.iload 4, 2) := zdL_law_284.2.2.2.2.1
theorem dL_law_290 : decode cL_law 290 = .ok (.iconst 2, 1) := zdL_law_284.2.2.2.2.2.1
theorem dL_law_291 : decode cL_law 291 = .ok (.iadd, 1) := zdL_law_284.2.2.2.2.2.2.1
theorem dL_law_292 : decode cL_law 292 = .ok (.iaload, 1) := zdL_law_284.2.2.2.2.2.2.2.1
theorem dL_law_293 : decode cL_law 293 = .ok (.invokevirtual 76, 3) := zdL_law_284.2.2.2.2.2.2.2.2.1
theorem dL_law_296 : decode cL_law 296 = .ok (.istore 6, 2) := zdL_law_284.2.2.2.2.2.2.2.2.2.1
theorem dL_law_298 : decode cL_law 298 = .ok (.goto 249, 3) := zdL_law_284.2.2.2.2.2.2.2.2.2.2.1
theorem dL_law_301 : decode cL_law 301 = .ok (.aload_n 1, 1) := zdL_law_284.2.2.2.2.2.2.2.2.2.2.2.1
theorem dL_law_302 : decode cL_law 302 = .ok (.aload_n 0, 1) := zdL_law_284.2.2.2.2.2.2.2.2.2.2.2.2.1
theorem dL_law_303 : decode cL_law 303 = .ok (.iload 4, 2) := zdL_law_284.2.2.2.2.2.2.2.2.2.2.2.2.2.1
theorem dL_law_305 : decode cL_law 305 = .ok (.iconst 1, 1) := zdL_law_284.2.2.2.2.2.2.2.2.2.2.2.2.2.2.1
theorem dL_law_306 : decode cL_law 306 = .ok (.iadd, 1) := zdL_law_284.2.2.2.2.2.2.2.2.2.2.2.2.2.2.2.1
theorem dL_law_307 : decode cL_law 307 = .ok (.iaload, 1) := zdL_law_284.2.2.2.2.2.2.2.2.2.2.2.2.2.2.2.2.1
theorem dL_law_308 : decode cL_law 308 = .ok (.aload_n 3, 1) := zdL_law_284.2.2.2.2.2.2.2.2.2.2.2.2.2.2.2.2.2.1
theorem dL_law_309 : decode cL_law 309 = .ok (.invokestatic 77, 3) := zdL_law_284.2.2.2.2.2.2.2.2.2.2.2.2.2.2.2.2.2.2.1
theorem dL_law_312 : decode cL_law 312 = .ok (.istore 5, 2) := zdL_law_284.2.2.2.2.2.2.2.2.2.2.2.2.2.2.2.2.2.2.2.1
theorem dL_law_314 : decode cL_law 314 = .ok (.aload_n 2, 1) := zdL_law_284.2.2.2.2.2.2.2.2.2.2.2.2.2.2.2.2.2.2.2.2.1
theorem dL_law_315 : decode cL_law 315 = .ok (.aload_n 0, 1) := zdL_law_284.2.2.2.2.2.2.2.2.2.2.2.2.2.2.2.2.2.2.2.2.2.1
theorem dL_law_316 : decode cL_law 316 = .ok (.iload 4, 2) := zdL_law_284.2.2.2.2.2.2.2.2.2.2.2.2.2.2.2.2.2.2.2.2.2.2.1
theorem dL_law_318 : decode cL_law 318 = .ok (.iconst 1, 1) := zdL_law_284.2.2.2.2.2.2.2.2.2.2.2.2.2.2.2.2.2.2.2.2.2.2.2.1
theorem dL_law_319 : decode cL_law 319 = .ok (.iadd, 1) := zdL_law_284.2.2.2.2.2.2.2.2.2.2.2.2.2.2.2.2.2.2.2.2.2.2.2.2.1
theorem dL_law_320 : decode cL_law 320 = .ok (.iaload, 1) := zdL_law_284.2.2.2.2.2.2.2.2.2.2.2.2.2.2.2.2.2.2.2.2.2.2.2.2.2.1
theorem dL_law_321 : decode cL_law 321 = .ok (.invokevirtual 79, 3) := zdL_law_284.2.2.2.2.2.2.2.2.2.2.2.2.2.2.2.2.2.2.2.2.2.2.2.2.2.2.1
theorem dL_law_324 : decode cL_law 324 = .ok (.istore 6, 2) := zdL_law_284.2.2.2.2.2.2.2.2.2.2.2.2.2.2.2.2.2.2.2.2.2.2.2.2.2.2.2.1
theorem dL_law_326 : decode cL_law 326 = .ok (.goto 221, 3) := zdL_law_284.2.2.2.2.2.2.2.2.2.2.2.2.2.2.2.2.2.2.2.2.2.2.2.2.2.2.2.2.1
theorem dL_law_329 : decode cL_law 329 = .ok (.aload_n 1, 1) := zdL_law_284.2.2.2.2.2.2.2.2.2.2.2.2.2.2.2.2.2.2.2.2.2.2.2.2.2.2.2.2.2.1
set_option maxRecDepth 20000 in
theorem zdL_law_330 : dAll cL_law [(330, .aload_n 0, 1), (331, .iload 4, 2), (333, .iconst 1, 1), (334, .iadd, 1), (335, .iaload, 1), (336, .aload_n 0, 1), (337, .iload 4, 2), (339, .iconst 2, 1), (340, .iadd, 1), (341, .iaload, 1), (342, .aload_n 0, 1), (343, .iload 4, 2), (345, .iconst 3, 1), (346, .iadd, 1), (347, .iaload, 1), (348, .aload_n 0, 1), (349, .iload 4, 2), (351, .iconst 4, 1), (352, .iadd, 1)] := dAll_of (by decide +kernel)
theorem dL_law_330 : decode cL_law 330 = .ok (.aload_n 0, 1) := zdL_law_330.1
theorem dL_law_331 : decode cL_law 331 = .ok (.iload 4, 2) := zdL_law_330.2.1
theorem dL_law_333 : decode cL_law 333 = .ok (.iconst 1, 1) := zdL_law_330.2.2.1
theorem dL_law_334 : decode cL_law 334 = .ok (.iadd, 1) := zdL_law_330.2.2.2.1
theorem dL_law_335 : decode cL_law 335 = .ok (.iaload, 1) := zdL_law_330.2.2.2.2.1
theorem dL_law_336 : decode cL_law 336 = .ok (.aload_n 0, 1) := zdL_law_330.2.2.2.2.2.1
theorem dL_law_337 : decode cL_law 337 = .ok (.iload 4, 2) := zdL_law_330.2.2.2.2.2.2.1
theorem dL_law_339 : decode cL_law 339 = .ok (.iconst 2, 1) := zdL_law_330.2.2.2.2.2.2.2.1
theorem dL_law_340 : decode cL_law 340 = .ok (.iadd, 1) := zdL_law_330.2.2.2.2.2.2.2.2.1
theorem dL_law_341 : decode cL_law 341 = .ok (.iaload, 1) := zdL_law_330.2.2.2.2.2.2.2.2.2.1
theorem dL_law_342 : decode cL_law 342 = .ok (.aload_n 0, 1) := zdL_law_330.2.2.2.2.2.2.2.2.2.2.1
theorem dL_law_343 : decode cL_law 343 = .ok (.iload 4, 2) := zdL_law_330.2.2.2.2.2.2.2.2.2.2.2.1
theorem dL_law_345 : decode cL_law 345 = .ok (.iconst 3, 1) := zdL_law_330.2.2.2.2.2.2.2.2.2.2.2.2.1
theorem dL_law_346 : decode cL_law 346 = .ok (.iadd, 1) := zdL_law_330.2.2.2.2.2.2.2.2.2.2.2.2.2.1
theorem dL_law_347 : decode cL_law 347 = .ok (.iaload, 1) := zdL_law_330.2.2.2.2.2.2.2.2.2.2.2.2.2.2.1
theorem dL_law_348 : decode cL_law 348 = .ok (.aload_n 0, 1) := zdL_law_330.2.2.2.2.2.2.2.2.2.2.2.2.2.2.2.1
theorem dL_law_349 : decode cL_law 349 = .ok (.iload 4, 2) := zdL_law_330.2.2.2.2.2.2.2.2.2.2.2.2.2.2.2.2.1
theorem dL_law_351 : decode cL_law 351 = .ok (.iconst 4, 1) := zdL_law_330.2.2.2.2.2.2.2.2.2.2.2.2.2.2.2.2.2.1
theorem dL_law_352 : decode cL_law 352 = .ok (.iadd, 1) := zdL_law_330.2.2.2.2.2.2.2.2.2.2.2.2.2.2.2.2.2.2.1
